theorem dL_isRefused_1008 : decode cL_isRefused 1008 = .ok (.iconst 0, 1) := by decide +kernel
theorem dL_isRefused_1009 : decode cL_isRefused 1009 = .ok (.iload 13, 2) := by decide +kernel
theorem dL_isRefused_1011 : decode cL_isRefused 1011 = .ok (.iconst 1, 1) := by decide +kernel
theorem dL_isRefused_1012 : decode cL_isRefused 1012 = .ok (.iconst 0, 1) := by decide +kernel
theorem dL_isRefused_1013 : decode cL_isRefused 1013 = .ok (.iconst 3, 1) := by decide +kernel
theorem dL_isRefused_1014 : decode cL_isRefused 1014 = .ok (.sipush 999, 3) := by decide +kernel
theorem dL_isRefused_1017 : decode cL_isRefused 1017 = .ok (.iconst 1, 1) := by decide +kernel
theorem dL_isRefused_1018 : decode cL_isRefused 1018 = .ok (.invokestatic 155, 3) := by decide +kernel
theorem dL_isRefused_1021 : decode cL_isRefused 1021 = .ok (.ldc 123, 2) := by decide +kernel
theorem dL_isRefused_1023 : decode cL_isRefused 1023 = .ok (.if_icmp .ne 246, 3) := by decide +kernel
theorem dL_isRefused_1026 : decode cL_isRefused 1026 = .ok (.aload_n 0, 1) := by decide +kernel
theorem dL_isRefused_1027 : decode cL_isRefused 1027 = .ok (.iconst 0, 1) := by decide +kernel
theorem dL_isRefused_1028 : decode cL_isRefused 1028 = .ok (.iload 13, 2) := by decide +kernel
theorem dL_isRefused_1030 : decode cL_isRefused 1030 = .ok (.iconst 0, 1) := by decide +kernel
theorem dL_isRefused_1031 : decode cL_isRefused 1031 = .ok (.iconst 0, 1) := by decide +kernel
theorem dL_isRefused_1032 : decode cL_isRefused 1032 = .ok (.iload 5, 2) := by decide +kernel
theorem dL_isRefused_1034 : decode cL_isRefused 1034 = .ok (.ifCond .eq 7, 3) := by decide +kernel
theorem dL_isRefused_1037 : decode cL_isRefused 1037 = .ok (.iconst (-1), 1) := by decide +kernel
theorem dL_isRefused_1038 : decode cL_isRefused 1038 = .ok (.goto 10, 3) := by decide +kernel
theorem dL_isRefused_1041 : decode cL_isRefused 1041 = .ok (.iconst 4, 1) := by decide +kernel
theorem dL_isRefused_1042 : decode cL_isRefused 1042 = .ok (.iload 4, 2) := by decide +kernel
theorem dL_isRefused_1044 : decode cL_isRefused 1044 = .ok (.bipush 30, 2) := by decide +kernel
theorem dL_isRefused_1046 : decode cL_isRefused 1046 = .ok (.irem, 1) := by decide +kernel
theorem dL_isRefused_1047 : decode cL_isRefused 1047 = .ok (.iadd, 1) := by decide +kernel
theorem dL_isRefused_1048 : decode cL_isRefused 1048 = .ok (.sipush 999, 3) := by decide +kernel
theorem dL_isRefused_1051 : decode cL_isRefused 1051 = .ok (.iconst 1, 1) := by decide +kernel
theorem dL_isRefused_1052 : decode cL_isRefused 1052 = .ok (.invokestatic 155, 3) := by decide +kernel
theorem dL_isRefused_1055 : decode cL_isRefused 1055 = .ok (.ldc 123, 2) := by decide +kernel
theorem dL_isRefused_1057 : decode cL_isRefused 1057 = .ok (.if_icmp .ne 212, 3) := by decide +kernel
theorem dL_isRefused_1060 : decode cL_isRefused 1060 = .ok (.aload_n 0, 1) := by decide +kernel
theorem dL_isRefused_1061 : decode cL_isRefused 1061 = .ok (.iconst 0, 1) := by decide +kernel
theorem dL_isRefused_1062 : decode cL_isRefused 1062 = .ok (.iload 13, 2) := by decide +kernel
theorem dL_isRefused_1064 : decode cL_isRefused 1064 = .ok (.iconst 0, 1) := by decide +kernel
theorem dL_isRefused_1065 : decode cL_isRefused 1065 = .ok (.iconst 0, 1) := by decide +kernel
theorem dL_isRefused_1066 : decode cL_isRefused 1066 = .ok (.iconst 3, 1) := by decide +kernel
theorem dL_isRefused_1067 : decode cL_isRefused 1067 = .ok (.iload 5, 2) := by decide +kernel
theorem dL_isRefused_1069 : decode cL_isRefused 1069 = .ok (.ifCond .eq 20, 3) := by decide +kernel
theorem dL_isRefused_1072 : decode cL_isRefused 1072 = .ok (.aload_n 1, 1) := by decide +kernel
theorem dL_isRefused_1073 : decode cL_isRefused 1073 = .ok (.iconst 0, 1) := by decide +kernel
theorem dL_isRefused_1074 : decode cL_isRefused 1074 = .ok (.iaload, 1) := by decide +kernel
theorem dL_isRefused_1075 : decode cL_isRefused 1075 = .ok (.bipush 24, 2) := by decide +kernel
theorem dL_isRefused_1077 : decode cL_isRefused 1077 = .ok (.idiv, 1) := by decide +kernel
theorem dL_isRefused_1078 : decode cL_isRefused 1078 = .ok (.iconst 1, 1) := by decide +kernel
theorem dL_isRefused_1079 : decode cL_isRefused 1079 = .ok (.isub, 1) := by decide +kernel
theorem dL_isRefused_1080 : decode cL_isRefused 1080 = .ok (.iload 4, 2) := by decide +kernel
theorem dL_isRefused_1082 : decode cL_isRefused 1082 = .ok (.bipush 30, 2) := by decide +kernel
theorem dL_isRefused_1084 : decode cL_isRefused 1084 = .ok (.irem, 1) := by decide +kernel
theorem dL_isRefused_1085 : decode cL_isRefused 1085 = .ok (.isub, 1) := by decide +kernel
theorem dL_isRefused_1086 : decode cL_isRefused 1086 = .ok (.goto 6, 3) := by decide +kernel
theorem dL_isRefused_1089 : decode cL_isRefused 1089 = .ok (.sipush 1000, 3) := by decide +kernel
theorem dL_isRefused_1092 : decode cL_isRefused 1092 = .ok (.iconst 1, 1) := by decide +kernel
theorem dL_isRefused_1093 : decode cL_isRefused 1093 = .ok (.invokestatic 155, 3) := by decide +kernel
theorem dL_isRefused_1096 : decode cL_isRefused 1096 = .ok (.ldc 123, 2) := by decide +kernel
theorem dL_isRefused_1098 : decode cL_isRefused 1098 = .ok (.if_icmp .ne 171, 3) := by decide +kernel
theorem dL_isRefused_1101 : decode cL_isRefused 1101 = .ok (.aload_n 0, 1) := by decide +kernel
theorem dL_isRefused_1102 : decode cL_isRefused 1102 = .ok (.iconst 0, 1) := by decide +kernel
theorem dL_isRefused_1103 : decode cL_isRefused 1103 = .ok (.iload 13, 2) := by decide +kernel
theorem dL_isRefused_1105 : decode cL_isRefused 1105 = .ok (.iconst 0, 1) := by decide +kernel
theorem dL_isRefused_1106 : decode cL_isRefused 1106 = .ok (.iconst 0, 1) := by decide +kernel
theorem dL_isRefused_1107 : decode cL_isRefused 1107 = .ok (.iload 4, 2) := by decide +kernel
theorem dL_isRefused_1109 : decode cL_isRefused 1109 = .ok (.iconst 3, 1) := by decide +kernel
theorem dL_isRefused_1110 : decode cL_isRefused 1110 = .ok (.irem, 1) := by decide +kernel
theorem dL_isRefused_1111 : decode cL_isRefused 1111 = .ok (.aload_n 1, 1) := by decide +kernel
theorem dL_isRefused_1112 : decode cL_isRefused 1112 = .ok (.iconst 0, 1) := by decide +kernel
theorem dL_isRefused_1113 : decode cL_isRefused 1113 = .ok (.iaload, 1) := by decide +kernel
theorem dL_isRefused_1114 : decode cL_isRefused 1114 = .ok (.bipush 24, 2) := by decide +kernel
theorem dL_isRefused_1116 : decode cL_isRefused 1116 = .ok (.idiv, 1) := by decide +kernel
theorem dL_isRefused_1117 : decode cL_isRefused 1117 = .ok (.iconst 2, 1) := by decide +kernel
theorem dL_isRefused_1118 : decode cL_isRefused 1118 = .ok (.iadd, 1) := by decide +kernel
theorem dL_isRefused_1119 : decode cL_isRefused 1119 = .ok (.iconst 1, 1) := by decide +kernel
theorem dL_isRefused_1120 : decode cL_isRefused 1120 = .ok (.invokestatic 155, 3) := by decide +kernel
theorem dL_isRefused_1123 : decode cL_isRefused 1123 = .ok (.ldc 123, 2) := by decide +kernel
theorem dL_isRefused_1125 : decode cL_isRefused 1125 = .ok (.if_icmp .ne 144, 3) := by decide +kernel
theorem dL_isRefused_1128 : decode cL_isRefused 1128 = .ok (.aload_n 0, 1) := by decide +kernel
theorem dL_isRefused_1129 : decode cL_isRefused 1129 = .ok (.iconst 0, 1) := by decide +kernel
theorem dL_isRefused_1130 : decode cL_isRefused 1130 = .ok (.iload 13, 2) := by decide +kernel
theorem dL_isRefused_1132 : decode cL_isRefused 1132 = .ok (.iconst 0, 1) := by decide +kernel
theorem dL_isRefused_1133 : decode cL_isRefused 1133 = .ok (.iconst 0, 1) := by decide +kernel
theorem dL_isRefused_1134 : decode cL_isRefused 1134 = .ok (.iconst 3, 1) := by decide +kernel
theorem dL_isRefused_1135 : decode cL_isRefused 1135 = .ok (.sipush 999, 3) := by decide +kernel
theorem dL_isRefused_1138 : decode cL_isRefused 1138 = .ok (.iload 5, 2) := by decide +kernel
theorem dL_isRefused_1140 : decode cL_isRefused 1140 = .ok (.ifCond .eq 13, 3) := by decide +kernel
theorem dL_isRefused_1143 : decode cL_isRefused 1143 = .ok (.iconst 0, 1) := by decide +kernel
theorem dL_isRefused_1144 : decode cL_isRefused 1144 = .ok (.iload 4, 2) := by decide +kernel
theorem dL_isRefused_1146 : decode cL_isRefused 1146 = .ok (.bipush 30, 2) := by decide +kernel
theorem dL_isRefused_1148 : decode cL_isRefused 1148 = .ok (.irem, 1) := by decide +kernel
theorem dL_isRefused_1149 : decode cL_isRefused 1149 = .ok (.isub, 1) := by decide +kernel
theorem dL_isRefused_1150 : decode cL_isRefused 1150 = .ok (.goto 5, 3) := by decide +kernel
theorem dL_isRefused_1153 : decode cL_isRefused 1153 = .ok (.bipush 61, 2) := by decide +kernel
theorem dL_isRefused_1155 : decode cL_isRefused 1155 = .ok (.invokestatic 155, 3) := by decide +kernel
theorem dL_isRefused_1158 : decode cL_isRefused 1158 = .ok (.ldc 123, 2) := by decide +kernel
theorem dL_isRefused_1160 : decode cL_isRefused 1160 = .ok (.if_icmp .ne 109, 3) := by decide +kernel
theorem dL_isRefused_1163 : decode cL_isRefused 1163 = .ok (.aload_n 0, 1) := by decide +kernel
theorem dL_isRefused_1164 : decode cL_isRefused 1164 = .ok (.bipush 22, 2) := by decide +kernel
theorem dL_isRefused_1166 : decode cL_isRefused 1166 = .ok (.iload 13, 2) := by decide +kernel
theorem dL_isRefused_1168 : decode cL_isRefused 1168 = .ok (.iload 14, 2) := by decide +kernel
theorem dL_isRefused_1170 : decode cL_isRefused 1170 = .ok (.sipush 999, 3) := by decide +kernel
theorem dL_isRefused_1173 : decode cL_isRefused 1173 = .ok (.invokestatic 151, 3) := by decide +kernel
theorem dL_isRefused_1176 : decode cL_isRefused 1176 = .ok (.ifCond .eq 93, 3) := by decide +kernel
theorem dL_isRefused_1179 : decode cL_isRefused 1179 = .ok (.aload_n 0, 1) := by decide +kernel
theorem dL_isRefused_1180 : decode cL_isRefused 1180 = .ok (.bipush 23, 2) := by decide +kernel
theorem dL_isRefused_1182 : decode cL_isRefused 1182 = .ok (.iload 13, 2) := by decide +kernel
theorem dL_isRefused_1184 : decode cL_isRefused 1184 = .ok (.iconst 0, 1) := by decide +kernel
theorem dL_isRefused_1185 : decode cL_isRefused 1185 = .ok (.iload 5, 2) := by decide +kernel
theorem dL_isRefused_1187 : decode cL_isRefused 1187 = .ok (.ifCond .eq 7, 3) := by decide +kernel
theorem dL_isRefused_1190 : decode cL_isRefused 1190 = .ok (.iconst (-1), 1) := by decide +kernel
theorem dL_isRefused_1191 : decode cL_isRefused 1191 = .ok (.goto 6, 3) := by decide +kernel
theorem dL_isRefused_1194 : decode cL_isRefused 1194 = .ok (.sipush 301, 3) := by decide +kernel
theorem dL_isRefused_1197 : decode cL_isRefused 1197 = .ok (.iconst 0, 1) := by decide +kernel
theorem dL_isRefused_1198 : decode cL_isRefused 1198 = .ok (.iconst 0, 1) := by decide +kernel
theorem dL_isRefused_1199 : decode cL_isRefused 1199 = .ok (.invokestatic 147, 3) := by decide +kernel
theorem dL_isRefused_1202 : decode cL_isRefused 1202 = .ok (.ifCond .eq 67, 3) := by decide +kernel
theorem dL_isRefused_1205 : decode cL_isRefused 1205 = .ok (.aload_n 0, 1) := by decide +kernel
theorem dL_isRefused_1206 : decode cL_isRefused 1206 = .ok (.bipush 27, 2) := by decide +kernel
theorem dL_isRefused_1208 : decode cL_isRefused 1208 = .ok (.iload 13, 2) := by decide +kernel
theorem dL_isRefused_1210 : decode cL_isRefused 1210 = .ok (.iload 14, 2) := by decide +kernel
theorem dL_isRefused_1212 : decode cL_isRefused 1212 = .ok (.bipush 9, 2) := by decide +kernel
theorem dL_isRefused_1214 : decode cL_isRefused 1214 = .ok (.invokestatic 151, 3) := by decide +kernel
theorem dL_isRefused_1217 : decode cL_isRefused 1217 = .ok (.ifCond .eq 52, 3) := by decide +kernel
theorem dL_isRefused_1220 : decode cL_isRefused 1220 = .ok (.aload_n 0, 1) := by decide +kernel
theorem dL_isRefused_1221 : decode cL_isRefused 1221 = .ok (.bipush 27, 2) := by decide +kernel
theorem dL_isRefused_1223 : decode cL_isRefused 1223 = .ok (.iload 13, 2) := by decide +kernel
theorem dL_isRefused_1225 : decode cL_isRefused 1225 = .ok (.iconst 0, 1) := by decide +kernel
theorem dL_isRefused_1226 : decode cL_isRefused 1226 = .ok (.iload 5, 2) := by decide +kernel
theorem dL_isRefused_1228 : decode cL_isRefused 1228 = .ok (.ifCond .eq 13, 3) := by decide +kernel
theorem dL_isRefused_1231 : decode cL_isRefused 1231 = .ok (.iconst (-1), 1) := by decide +kernel
theorem dL_isRefused_1232 : decode cL_isRefused 1232 = .ok (.iload 4, 2) := by decide +kernel
theorem dL_isRefused_1234 : decode cL_isRefused 1234 = .ok (.bipush 30, 2) := by decide +kernel
theorem dL_isRefused_1236 : decode cL_isRefused 1236 = .ok (.irem, 1) := by decide +kernel
theorem dL_isRefused_1237 : decode cL_isRefused 1237 = .ok (.isub, 1) := by decide +kernel
theorem dL_isRefused_1238 : decode cL_isRefused 1238 = .ok (.goto 4, 3) := by decide +kernel
theorem dL_isRefused_1241 : decode cL_isRefused 1241 = .ok (.iconst 4, 1) := by decide +kernel
theorem dL_isRefused_1242 : decode cL_isRefused 1242 = .ok (.iconst 0, 1) := by decide +kernel
theorem dL_isRefused_1243 : decode cL_isRefused 1243 = .ok (.iconst 0, 1) := by decide +kernel
theorem dL_isRefused_1244 : decode cL_isRefused 1244 = .ok (.invokestatic 147, 3) := by decide +kernel
theorem dL_isRefused_1247 : decode cL_isRefused 1247 = .ok (.ifCond .eq 22, 3) := by decide +kernel
theorem dL_isRefused_1250 : decode cL_isRefused 1250 = .ok (.aload_n 0, 1) := by decide +kernel
theorem dL_isRefused_1251 : decode cL_isRefused 1251 = .ok (.bipush 28, 2) := by decide +kernel
theorem dL_isRefused_1253 : decode cL_isRefused 1253 = .ok (.iload 13, 2) := by decide +kernel
theorem dL_isRefused_1255 : decode cL_isRefused 1255 = .ok (.iconst 1, 1) := by decide +kernel
theorem dL_isRefused_1256 : decode cL_isRefused 1256 = .ok (.iconst 0, 1) := by decide +kernel
theorem dL_isRefused_1257 : decode cL_isRefused 1257 = .ok (.iconst 0, 1) := by decide +kernel
theorem dL_isRefused_1258 : decode cL_isRefused 1258 = .ok (.iconst 0, 1) := by decide +kernel
theorem dL_isRefused_1259 : decode cL_isRefused 1259 = .ok (.invokestatic 147, 3) := by decide +kernel
theorem dL_isRefused_1262 : decode cL_isRefused 1262 = .ok (.ifCond .eq 7, 3) := by decide +kernel
theorem dL_isRefused_1265 : decode cL_isRefused 1265 = .ok (.iconst 1, 1) := by decide +kernel
theorem dL_isRefused_1266 : decode cL_isRefused 1266 = .ok (.goto 4, 3) := by decide +kernel
theorem dL_isRefused_1269 : decode cL_isRefused 1269 = .ok (.iconst 0, 1) := by decide +kernel
theorem dL_isRefused_1270 : decode cL_isRefused 1270 = .ok (.istore 12, 2) := by decide +kernel
theorem dL_isRefused_1272 : decode cL_isRefused 1272 = .ok (.iinc 13 1, 3) := by decide +kernel
theorem dL_isRefused_1275 : decode cL_isRefused 1275 = .ok (.goto (-537), 3) := by decide +kernel
theorem dL_isRefused_1278 : decode cL_isRefused 1278 = .ok (.iload 12, 2) := by decide +kernel
theorem dL_isRefused_1280 : decode cL_isRefused 1280 = .ok (.ifCond .eq 288, 3) := by decide +kernel
theorem dL_isRefused_1283 : decode cL_isRefused 1283 = .ok (.aload_n 1, 1) := by decide +kernel
theorem dL_isRefused_1284 : decode cL_isRefused 1284 = .ok (.iconst 3, 1) := by decide +kernel
theorem dL_isRefused_1285 : decode cL_isRefused 1285 = .ok (.iaload, 1) := by decide +kernel
theorem dL_isRefused_1286 : decode cL_isRefused 1286 = .ok (.ifCond .le 282, 3) := by decide +kernel
theorem dL_isRefused_1289 : decode cL_isRefused 1289 = .ok (.iload 4, 2) := by decide +kernel
theorem dL_isRefused_1291 : decode cL_isRefused 1291 = .ok (.iconst 2, 1) := by decide +kernel
theorem dL_isRefused_1292 : decode cL_isRefused 1292 = .ok (.idiv, 1) := by decide +kernel
theorem dL_isRefused_1293 : decode cL_isRefused 1293 = .ok (.aload_n 1, 1) := by decide +kernel
theorem dL_isRefused_1294 : decode cL_isRefused 1294 = .ok (.iconst 3, 1) := by decide +kernel
theorem dL_isRefused_1295 : decode cL_isRefused 1295 = .ok (.iaload, 1) := by decide +kernel
theorem dL_isRefused_1296 : decode cL_isRefused 1296 = .ok (.irem, 1) := by decide +kernel
theorem dL_isRefused_1297 : decode cL_isRefused 1297 = .ok (.istore 13, 2) := by decide +kernel
theorem dL_isRefused_1299 : decode cL_isRefused 1299 = .ok (.aload_n 0, 1) := by decide +kernel
theorem dL_isRefused_1300 : decode cL_isRefused 1300 = .ok (.bipush 8, 2) := by decide +kernel
theorem dL_isRefused_1302 : decode cL_isRefused 1302 = .ok (.iload 13, 2) := by decide +kernel
theorem dL_isRefused_1304 : decode cL_isRefused 1304 = .ok (.iload 5, 2) := by decide +kernel
theorem dL_isRefused_1306 : decode cL_isRefused 1306 = .ok (.ifCond .eq 7, 3) := by decide +kernel
theorem dL_isRefused_1309 : decode cL_isRefused 1309 = .ok (.iconst (-1), 1) := by decide +kernel
theorem dL_isRefused_1310 : decode cL_isRefused 1310 = .ok (.goto 10, 3) := by decide +kernel
theorem dL_isRefused_1313 : decode cL_isRefused 1313 = .ok (.iconst 4, 1) := by decide +kernel
theorem dL_isRefused_1314 : decode cL_isRefused 1314 = .ok (.iload 4, 2) := by decide +kernel
theorem dL_isRefused_1316 : decode cL_isRefused 1316 = .ok (.bipush 30, 2) := by decide +kernel
theorem dL_isRefused_1318 : decode cL_isRefused 1318 = .ok (.irem, 1) := by decide +kernel
theorem dL_isRefused_1319 : decode cL_isRefused 1319 = .ok (.iadd, 1) := by decide +kernel
theorem dL_isRefused_1320 : decode cL_isRefused 1320 = .ok (.iconst 0, 1) := by decide +kernel
theorem dL_isRefused_1321 : decode cL_isRefused 1321 = .ok (.iconst 0, 1) := by decide +kernel
theorem dL_isRefused_1322 : decode cL_isRefused 1322 = .ok (.iconst 0, 1) := by decide +kernel
theorem dL_isRefused_1323 : decode cL_isRefused 1323 = .ok (.invokestatic 147, 3) := by decide +kernel
theorem dL_isRefused_1326 : decode cL_isRefused 1326 = .ok (.ifCond .eq 239, 3) := by decide +kernel
theorem dL_isRefused_1329 : decode cL_isRefused 1329 = .ok (.aload_n 0, 1) := by decide +kernel
theorem dL_isRefused_1330 : decode cL_isRefused 1330 = .ok (.bipush 10, 2) := by decide +kernel
theorem dL_isRefused_1332 : decode cL_isRefused 1332 = .ok (.iload 13, 2) := by decide +kernel
theorem dL_isRefused_1334 : decode cL_isRefused 1334 = .ok (.iload 5, 2) := by decide +kernel
theorem dL_isRefused_1336 : decode cL_isRefused 1336 = .ok (.ifCond .eq 13, 3) := by decide +kernel
theorem dL_isRefused_1339 : decode cL_isRefused 1339 = .ok (.iconst (-1), 1) := by decide +kernel
theorem dL_isRefused_1340 : decode cL_isRefused 1340 = .ok (.iload 4, 2) := by decide +kernel
theorem dL_isRefused_1342 : decode cL_isRefused 1342 = .ok (.bipush 30, 2) := by decide +kernel
theorem dL_isRefused_1344 : decode cL_isRefused 1344 = .ok (.irem, 1) := by decide +kernel
theorem dL_isRefused_1345 : decode cL_isRefused 1345 = .ok (.isub, 1) := by decide +kernel
theorem dL_isRefused_1346 : decode cL_isRefused 1346 = .ok (.goto 4, 3) := by decide +kernel
theorem dL_isRefused_1349 : decode cL_isRefused 1349 = .ok (.iconst 4, 1) := by decide +kernel
theorem dL_isRefused_1350 : decode cL_isRefused 1350 = .ok (.iconst 0, 1) := by decide +kernel
theorem dL_isRefused_1351 : decode cL_isRefused 1351 = .ok (.iconst 0, 1) := by decide +kernel
theorem dL_isRefused_1352 : decode cL_isRefused 1352 = .ok (.iconst 0, 1) := by decide +kernel
theorem dL_isRefused_1353 : decode cL_isRefused 1353 = .ok (.invokestatic 147, 3) := by decide +kernel
theorem dL_isRefused_1356 : decode cL_isRefused 1356 = .ok (.ifCond .eq 209, 3) := by decide +kernel
theorem dL_isRefused_1359 : decode cL_isRefused 1359 = .ok (.aload_n 0, 1) := by decide +kernel
theorem dL_isRefused_1360 : decode cL_isRefused 1360 = .ok (.bipush 12, 2) := by decide +kernel
theorem dL_isRefused_1362 : decode cL_isRefused 1362 = .ok (.iload 13, 2) := by decide +kernel
theorem dL_isRefused_1364 : decode cL_isRefused 1364 = .ok (.iload 8, 2) := by decide +kernel
theorem dL_isRefused_1366 : decode cL_isRefused 1366 = .ok (.iconst 0, 1) := by decide +kernel
theorem dL_isRefused_1367 : decode cL_isRefused 1367 = .ok (.invokestatic 151, 3) := by decide +kernel
theorem dL_isRefused_1370 : decode cL_isRefused 1370 = .ok (.ifCond .eq 195, 3) := by decide +kernel
theorem dL_isRefused_1373 : decode cL_isRefused 1373 = .ok (.aload_n 0, 1) := by decide +kernel
theorem dL_isRefused_1374 : decode cL_isRefused 1374 = .ok (.bipush 12, 2) := by decide +kernel
theorem dL_isRefused_1376 : decode cL_isRefused 1376 = .ok (.iload 13, 2) := by decide +kernel
theorem dL_isRefused_1378 : decode cL_isRefused 1378 = .ok (.iload 13, 2) := by decide +kernel
theorem dL_isRefused_1380 : decode cL_isRefused 1380 = .ok (.iconst 0, 1) := by decide +kernel
theorem dL_isRefused_1381 : decode cL_isRefused 1381 = .ok (.iconst 0, 1) := by decide +kernel
theorem dL_isRefused_1382 : decode cL_isRefused 1382 = .ok (.iconst 0, 1) := by decide +kernel
theorem dL_isRefused_1383 : decode cL_isRefused 1383 = .ok (.invokestatic 147, 3) := by decide +kernel
theorem dL_isRefused_1386 : decode cL_isRefused 1386 = .ok (.ifCond .eq 179, 3) := by decide +kernel
theorem dL_isRefused_1389 : decode cL_isRefused 1389 = .ok (.aload_n 0, 1) := by decide +kernel
theorem dL_isRefused_1390 : decode cL_isRefused 1390 = .ok (.bipush 14, 2) := by decide +kernel
theorem dL_isRefused_1392 : decode cL_isRefused 1392 = .ok (.iload 13, 2) := by decide +kernel
theorem dL_isRefused_1394 : decode cL_isRefused 1394 = .ok (.iload 5, 2) := by decide +kernel
theorem dL_isRefused_1396 : decode cL_isRefused 1396 = .ok (.ifCond .eq 16, 3) := by decide +kernel
theorem dL_isRefused_1399 : decode cL_isRefused 1399 = .ok (.aload_n 3, 1) := by decide +kernel
theorem dL_isRefused_1400 : decode cL_isRefused 1400 = .ok (.iconst 4, 1) := by decide +kernel
theorem dL_isRefused_1401 : decode cL_isRefused 1401 = .ok (.iload 13, 2) := by decide +kernel
theorem dL_isRefused_1403 : decode cL_isRefused 1403 = .ok (.imul, 1) := by decide +kernel
theorem dL_isRefused_1404 : decode cL_isRefused 1404 = .ok (.iconst 1, 1) := by decide +kernel
theorem dL_isRefused_1405 : decode cL_isRefused 1405 = .ok (.iadd, 1) := by decide +kernel
theorem dL_isRefused_1406 : decode cL_isRefused 1406 = .ok (.iaload, 1) := by decide +kernel
theorem dL_isRefused_1407 : decode cL_isRefused 1407 = .ok (.iconst 1, 1) := by decide +kernel
theorem dL_isRefused_1408 : decode cL_isRefused 1408 = .ok (.isub, 1) := by decide +kernel
theorem dL_isRefused_1409 : decode cL_isRefused 1409 = .ok (.goto 13, 3) := by decide +kernel
theorem dL_isRefused_1412 : decode cL_isRefused 1412 = .ok (.aload_n 3, 1) := by decide +kernel
theorem dL_isRefused_1413 : decode cL_isRefused 1413 = .ok (.iconst 4, 1) := by decide +kernel
theorem dL_isRefused_1414 : decode cL_isRefused 1414 = .ok (.iload 13, 2) := by decide +kernel
theorem dL_isRefused_1416 : decode cL_isRefused 1416 = .ok (.imul, 1) := by decide +kernel
theorem dL_isRefused_1417 : decode cL_isRefused 1417 = .ok (.iconst 2, 1) := by decide +kernel
theorem dL_isRefused_1418 : decode cL_isRefused 1418 = .ok (.iadd, 1) := by decide +kernel
theorem dL_isRefused_1419 : decode cL_isRefused 1419 = .ok (.iaload, 1) := by decide +kernel
theorem dL_isRefused_1420 : decode cL_isRefused 1420 = .ok (.iconst 1, 1) := by decide +kernel
theorem dL_isRefused_1421 : decode cL_isRefused 1421 = .ok (.iadd, 1) := by decide +kernel
theorem dL_isRefused_1422 : decode cL_isRefused 1422 = .ok (.iconst 0, 1) := by decide +kernel
theorem dL_isRefused_1423 : decode cL_isRefused 1423 = .ok (.invokestatic 151, 3) := by decide +kernel
theorem dL_isRefused_1426 : decode cL_isRefused 1426 = .ok (.ifCond .eq 139, 3) := by decide +kernel
theorem dL_isRefused_1429 : decode cL_isRefused 1429 = .ok (.aload_n 0, 1) := by decide +kernel
theorem dL_isRefused_1430 : decode cL_isRefused 1430 = .ok (.bipush 15, 2) := by decide +kernel
theorem dL_isRefused_1432 : decode cL_isRefused 1432 = .ok (.iload 13, 2) := by decide +kernel
theorem dL_isRefused_1434 : decode cL_isRefused 1434 = .ok (.iload 5, 2) := by decide +kernel
theorem dL_isRefused_1436 : decode cL_isRefused 1436 = .ok (.ifCond .eq 16, 3) := by decide +kernel
theorem dL_isRefused_1439 : decode cL_isRefused 1439 = .ok (.aload_n 3, 1) := by decide +kernel
theorem dL_isRefused_1440 : decode cL_isRefused 1440 = .ok (.iconst 4, 1) := by decide +kernel
theorem dL_isRefused_1441 : decode cL_isRefused 1441 = .ok (.iload 13, 2) := by decide +kernel
theorem dL_isRefused_1443 : decode cL_isRefused 1443 = .ok (.imul, 1) := by decide +kernel
theorem dL_isRefused_1444 : decode cL_isRefused 1444 = .ok (.iconst 1, 1) := by decide +kernel
theorem dL_isRefused_1445 : decode cL_isRefused 1445 = .ok (.iadd, 1) := by decide +kernel
theorem dL_isRefused_1446 : decode cL_isRefused 1446 = .ok (.iaload, 1) := by decide +kernel
theorem dL_isRefused_1447 : decode cL_isRefused 1447 = .ok (.iconst 1, 1) := by decide +kernel
theorem dL_isRefused_1448 : decode cL_isRefused 1448 = .ok (.isub, 1) := by decide +kernel
theorem dL_isRefused_1449 : decode cL_isRefused 1449 = .ok (.goto 13, 3) := by decide +kernel
theorem dL_isRefused_1452 : decode cL_isRefused 1452 = .ok (.aload_n 3, 1) := by decide +kernel
theorem dL_isRefused_1453 : decode cL_isRefused 1453 = .ok (.iconst 4, 1) := by decide +kernel
theorem dL_isRefused_1454 : decode cL_isRefused 1454 = .ok (.iload 13, 2) := by decide +kernel
theorem dL_isRefused_1456 : decode cL_isRefused 1456 = .ok (.imul, 1) := by decide +kernel
theorem dL_isRefused_1457 : decode cL_isRefused 1457 = .ok (.iconst 2, 1) := by decide +kernel
theorem dL_isRefused_1458 : decode cL_isRefused 1458 = .ok (.iadd, 1) := by decide +kernel
theorem dL_isRefused_1459 : decode cL_isRefused 1459 = .ok (.iaload, 1) := by decide +kernel
theorem dL_isRefused_1460 : decode cL_isRefused 1460 = .ok (.iconst 1, 1) := by decide +kernel
theorem dL_isRefused_1461 : decode cL_isRefused 1461 = .ok (.iadd, 1) := by decide +kernel
theorem dL_isRefused_1462 : decode cL_isRefused 1462 = .ok (.sipush 999, 3) := by decide +kernel
theorem dL_isRefused_1465 : decode cL_isRefused 1465 = .ok (.invokestatic 151, 3) := by decide +kernel
theorem dL_isRefused_1468 : decode cL_isRefused 1468 = .ok (.ifCond .eq 97, 3) := by decide +kernel
theorem dL_isRefused_1471 : decode cL_isRefused 1471 = .ok (.aload_n 0, 1) := by decide +kernel
theorem dL_isRefused_1472 : decode cL_isRefused 1472 = .ok (.bipush 15, 2) := by decide +kernel
theorem dL_isRefused_1474 : decode cL_isRefused 1474 = .ok (.iload 13, 2) := by decide +kernel
theorem dL_isRefused_1476 : decode cL_isRefused 1476 = .ok (.aload_n 3, 1) := by decide +kernel
theorem dL_isRefused_1477 : decode cL_isRefused 1477 = .ok (.iconst 4, 1) := by decide +kernel
theorem dL_isRefused_1478 : decode cL_isRefused 1478 = .ok (.iload 13, 2) := by decide +kernel
theorem dL_isRefused_1480 : decode cL_isRefused 1480 = .ok (.imul, 1) := by decide +kernel
theorem dL_isRefused_1481 : decode cL_isRefused 1481 = .ok (.iconst 1, 1) := by decide +kernel
theorem dL_isRefused_1482 : decode cL_isRefused 1482 = .ok (.iadd, 1) := by decide +kernel
theorem dL_isRefused_1483 : decode cL_isRefused 1483 = .ok (.iaload, 1) := by decide +kernel
theorem dL_isRefused_1484 : decode cL_isRefused 1484 = .ok (.iload 5, 2) := by decide +kernel
theorem dL_isRefused_1486 : decode cL_isRefused 1486 = .ok (.ifCond .eq 13, 3) := by decide +kernel
theorem dL_isRefused_1489 : decode cL_isRefused 1489 = .ok (.iconst (-1), 1) := by decide +kernel
theorem dL_isRefused_1490 : decode cL_isRefused 1490 = .ok (.iload 4, 2) := by decide +kernel
