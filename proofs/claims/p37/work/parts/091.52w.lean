theorem dL_isDone_1086 : decode cL_isDone 1086 = .ok (.iconst 0, 1) := by decide +kernel
theorem dL_isDone_1087 : decode cL_isDone 1087 = .ok (.iconst 0, 1) := by decide +kernel
theorem dL_isDone_1088 : decode cL_isDone 1088 = .ok (.iconst 0, 1) := by decide +kernel
theorem dL_isDone_1089 : decode cL_isDone 1089 = .ok (.invokestatic 137, 3) := by decide +kernel
theorem dL_isDone_1092 : decode cL_isDone 1092 = .ok (.iload 7, 2) := by decide +kernel
theorem dL_isDone_1094 : decode cL_isDone 1094 = .ok (.iconst 3, 1) := by decide +kernel
theorem dL_isDone_1095 : decode cL_isDone 1095 = .ok (.if_icmp .ne 10, 3) := by decide +kernel
theorem dL_isDone_1098 : decode cL_isDone 1098 = .ok (.iconst 1, 1) := by decide +kernel
theorem dL_isDone_1099 : decode cL_isDone 1099 = .ok (.iload 10, 2) := by decide +kernel
theorem dL_isDone_1101 : decode cL_isDone 1101 = .ok (.isub, 1) := by decide +kernel
theorem dL_isDone_1102 : decode cL_isDone 1102 = .ok (.goto 5, 3) := by decide +kernel
theorem dL_isDone_1105 : decode cL_isDone 1105 = .ok (.ldc 126, 2) := by decide +kernel
theorem dL_isDone_1107 : decode cL_isDone 1107 = .ok (.if_icmp .ne 7, 3) := by decide +kernel
theorem dL_isDone_1110 : decode cL_isDone 1110 = .ok (.iconst 1, 1) := by decide +kernel
theorem dL_isDone_1111 : decode cL_isDone 1111 = .ok (.goto 4, 3) := by decide +kernel
theorem dL_isDone_1114 : decode cL_isDone 1114 = .ok (.iconst 0, 1) := by decide +kernel
theorem dL_isDone_1115 : decode cL_isDone 1115 = .ok (.ireturn, 1) := by decide +kernel
theorem dL_isDone_1116 : decode cL_isDone 1116 = .ok (.iload_n 3, 1) := by decide +kernel
theorem dL_isDone_1117 : decode cL_isDone 1117 = .ok (.bipush 14, 2) := by decide +kernel
theorem dL_isDone_1119 : decode cL_isDone 1119 = .ok (.if_icmp .ne 124, 3) := by decide +kernel
theorem dL_isDone_1122 : decode cL_isDone 1122 = .ok (.aload_n 0, 1) := by decide +kernel
theorem dL_isDone_1123 : decode cL_isDone 1123 = .ok (.iload 5, 2) := by decide +kernel
theorem dL_isDone_1125 : decode cL_isDone 1125 = .ok (.iconst 4, 1) := by decide +kernel
theorem dL_isDone_1126 : decode cL_isDone 1126 = .ok (.invokevirtual 96, 3) := by decide +kernel
theorem dL_isDone_1129 : decode cL_isDone 1129 = .ok (.istore 10, 2) := by decide +kernel
theorem dL_isDone_1131 : decode cL_isDone 1131 = .ok (.aload_n 0, 1) := by decide +kernel
theorem dL_isDone_1132 : decode cL_isDone 1132 = .ok (.iload 5, 2) := by decide +kernel
theorem dL_isDone_1134 : decode cL_isDone 1134 = .ok (.iconst 1, 1) := by decide +kernel
theorem dL_isDone_1135 : decode cL_isDone 1135 = .ok (.invokevirtual 96, 3) := by decide +kernel
theorem dL_isDone_1138 : decode cL_isDone 1138 = .ok (.istore 11, 2) := by decide +kernel
theorem dL_isDone_1140 : decode cL_isDone 1140 = .ok (.aload_n 0, 1) := by decide +kernel
theorem dL_isDone_1141 : decode cL_isDone 1141 = .ok (.bipush 17, 2) := by decide +kernel
theorem dL_isDone_1143 : decode cL_isDone 1143 = .ok (.iload 5, 2) := by decide +kernel
theorem dL_isDone_1145 : decode cL_isDone 1145 = .ok (.iconst 0, 1) := by decide +kernel
theorem dL_isDone_1146 : decode cL_isDone 1146 = .ok (.iconst 0, 1) := by decide +kernel
theorem dL_isDone_1147 : decode cL_isDone 1147 = .ok (.iconst 0, 1) := by decide +kernel
theorem dL_isDone_1148 : decode cL_isDone 1148 = .ok (.iconst 0, 1) := by decide +kernel
theorem dL_isDone_1149 : decode cL_isDone 1149 = .ok (.invokestatic 137, 3) := by decide +kernel
theorem dL_isDone_1152 : decode cL_isDone 1152 = .ok (.istore 12, 2) := by decide +kernel
theorem dL_isDone_1154 : decode cL_isDone 1154 = .ok (.iload 12, 2) := by decide +kernel
theorem dL_isDone_1156 : decode cL_isDone 1156 = .ok (.ldc 126, 2) := by decide +kernel
theorem dL_isDone_1158 : decode cL_isDone 1158 = .ok (.if_icmp .ne 35, 3) := by decide +kernel
theorem dL_isDone_1161 : decode cL_isDone 1161 = .ok (.aload_n 0, 1) := by decide +kernel
theorem dL_isDone_1162 : decode cL_isDone 1162 = .ok (.iload 5, 2) := by decide +kernel
theorem dL_isDone_1164 : decode cL_isDone 1164 = .ok (.iconst 1, 1) := by decide +kernel
theorem dL_isDone_1165 : decode cL_isDone 1165 = .ok (.invokevirtual 96, 3) := by decide +kernel
theorem dL_isDone_1168 : decode cL_isDone 1168 = .ok (.iload 11, 2) := by decide +kernel
theorem dL_isDone_1170 : decode cL_isDone 1170 = .ok (.if_icmp .ne 19, 3) := by decide +kernel
theorem dL_isDone_1173 : decode cL_isDone 1173 = .ok (.aload_n 0, 1) := by decide +kernel
theorem dL_isDone_1174 : decode cL_isDone 1174 = .ok (.iload 5, 2) := by decide +kernel
theorem dL_isDone_1176 : decode cL_isDone 1176 = .ok (.iconst 4, 1) := by decide +kernel
theorem dL_isDone_1177 : decode cL_isDone 1177 = .ok (.invokevirtual 96, 3) := by decide +kernel
theorem dL_isDone_1180 : decode cL_isDone 1180 = .ok (.iload 10, 2) := by decide +kernel
theorem dL_isDone_1182 : decode cL_isDone 1182 = .ok (.if_icmp .ne 7, 3) := by decide +kernel
theorem dL_isDone_1185 : decode cL_isDone 1185 = .ok (.iconst 1, 1) := by decide +kernel
theorem dL_isDone_1186 : decode cL_isDone 1186 = .ok (.goto 56, 3) := by decide +kernel
theorem dL_isDone_1189 : decode cL_isDone 1189 = .ok (.iconst 0, 1) := by decide +kernel
theorem dL_isDone_1190 : decode cL_isDone 1190 = .ok (.goto 52, 3) := by decide +kernel
theorem dL_isDone_1193 : decode cL_isDone 1193 = .ok (.iload 7, 2) := by decide +kernel
theorem dL_isDone_1195 : decode cL_isDone 1195 = .ok (.iconst 3, 1) := by decide +kernel
theorem dL_isDone_1196 : decode cL_isDone 1196 = .ok (.if_icmp .ne 45, 3) := by decide +kernel
theorem dL_isDone_1199 : decode cL_isDone 1199 = .ok (.iload 10, 2) := by decide +kernel
theorem dL_isDone_1201 : decode cL_isDone 1201 = .ok (.ifCond .le 40, 3) := by decide +kernel
theorem dL_isDone_1204 : decode cL_isDone 1204 = .ok (.iload 12, 2) := by decide +kernel
theorem dL_isDone_1206 : decode cL_isDone 1206 = .ok (.iload 11, 2) := by decide +kernel
theorem dL_isDone_1208 : decode cL_isDone 1208 = .ok (.iconst 2, 1) := by decide +kernel
theorem dL_isDone_1209 : decode cL_isDone 1209 = .ok (.iadd, 1) := by decide +kernel
theorem dL_isDone_1210 : decode cL_isDone 1210 = .ok (.if_icmp .ne 31, 3) := by decide +kernel
theorem dL_isDone_1213 : decode cL_isDone 1213 = .ok (.aload_n 0, 1) := by decide +kernel
theorem dL_isDone_1214 : decode cL_isDone 1214 = .ok (.iload 5, 2) := by decide +kernel
theorem dL_isDone_1216 : decode cL_isDone 1216 = .ok (.iconst 4, 1) := by decide +kernel
theorem dL_isDone_1217 : decode cL_isDone 1217 = .ok (.invokevirtual 96, 3) := by decide +kernel
theorem dL_isDone_1220 : decode cL_isDone 1220 = .ok (.iload 10, 2) := by decide +kernel
theorem dL_isDone_1222 : decode cL_isDone 1222 = .ok (.iconst 1, 1) := by decide +kernel
theorem dL_isDone_1223 : decode cL_isDone 1223 = .ok (.isub, 1) := by decide +kernel
theorem dL_isDone_1224 : decode cL_isDone 1224 = .ok (.if_icmp .ne 17, 3) := by decide +kernel
theorem dL_isDone_1227 : decode cL_isDone 1227 = .ok (.aload_n 0, 1) := by decide +kernel
theorem dL_isDone_1228 : decode cL_isDone 1228 = .ok (.iload 5, 2) := by decide +kernel
theorem dL_isDone_1230 : decode cL_isDone 1230 = .ok (.invokevirtual 90, 3) := by decide +kernel
theorem dL_isDone_1233 : decode cL_isDone 1233 = .ok (.iconst 3, 1) := by decide +kernel
theorem dL_isDone_1234 : decode cL_isDone 1234 = .ok (.if_icmp .eq 7, 3) := by decide +kernel
theorem dL_isDone_1237 : decode cL_isDone 1237 = .ok (.iconst 1, 1) := by decide +kernel
theorem dL_isDone_1238 : decode cL_isDone 1238 = .ok (.goto 4, 3) := by decide +kernel
theorem dL_isDone_1241 : decode cL_isDone 1241 = .ok (.iconst 0, 1) := by decide +kernel
theorem dL_isDone_1242 : decode cL_isDone 1242 = .ok (.ireturn, 1) := by decide +kernel
theorem dL_isDone_1243 : decode cL_isDone 1243 = .ok (.iload 7, 2) := by decide +kernel
theorem dL_isDone_1245 : decode cL_isDone 1245 = .ok (.iconst 3, 1) := by decide +kernel
theorem dL_isDone_1246 : decode cL_isDone 1246 = .ok (.if_icmp .ne 17, 3) := by decide +kernel
theorem dL_isDone_1249 : decode cL_isDone 1249 = .ok (.aload_n 0, 1) := by decide +kernel
theorem dL_isDone_1250 : decode cL_isDone 1250 = .ok (.iload 5, 2) := by decide +kernel
theorem dL_isDone_1252 : decode cL_isDone 1252 = .ok (.iconst 5, 1) := by decide +kernel
theorem dL_isDone_1253 : decode cL_isDone 1253 = .ok (.invokevirtual 96, 3) := by decide +kernel
theorem dL_isDone_1256 : decode cL_isDone 1256 = .ok (.ifCond .ne 7, 3) := by decide +kernel
theorem dL_isDone_1259 : decode cL_isDone 1259 = .ok (.iconst 1, 1) := by decide +kernel
theorem dL_isDone_1260 : decode cL_isDone 1260 = .ok (.goto 4, 3) := by decide +kernel
theorem dL_isDone_1263 : decode cL_isDone 1263 = .ok (.iconst 0, 1) := by decide +kernel
theorem dL_isDone_1264 : decode cL_isDone 1264 = .ok (.istore 10, 2) := by decide +kernel
theorem dL_isDone_1266 : decode cL_isDone 1266 = .ok (.aload_n 0, 1) := by decide +kernel
theorem dL_isDone_1267 : decode cL_isDone 1267 = .ok (.iload 5, 2) := by decide +kernel
theorem dL_isDone_1269 : decode cL_isDone 1269 = .ok (.iconst 1, 1) := by decide +kernel
theorem dL_isDone_1270 : decode cL_isDone 1270 = .ok (.invokevirtual 96, 3) := by decide +kernel
theorem dL_isDone_1273 : decode cL_isDone 1273 = .ok (.istore 11, 2) := by decide +kernel
theorem dL_isDone_1275 : decode cL_isDone 1275 = .ok (.aload_n 1, 1) := by decide +kernel
theorem dL_isDone_1276 : decode cL_isDone 1276 = .ok (.iconst 0, 1) := by decide +kernel
theorem dL_isDone_1277 : decode cL_isDone 1277 = .ok (.iaload, 1) := by decide +kernel
theorem dL_isDone_1278 : decode cL_isDone 1278 = .ok (.bipush 24, 2) := by decide +kernel
theorem dL_isDone_1280 : decode cL_isDone 1280 = .ok (.idiv, 1) := by decide +kernel
theorem dL_isDone_1281 : decode cL_isDone 1281 = .ok (.iload 11, 2) := by decide +kernel
theorem dL_isDone_1283 : decode cL_isDone 1283 = .ok (.if_icmp .le 15, 3) := by decide +kernel
theorem dL_isDone_1286 : decode cL_isDone 1286 = .ok (.aload_n 1, 1) := by decide +kernel
theorem dL_isDone_1287 : decode cL_isDone 1287 = .ok (.iconst 0, 1) := by decide +kernel
theorem dL_isDone_1288 : decode cL_isDone 1288 = .ok (.iaload, 1) := by decide +kernel
theorem dL_isDone_1289 : decode cL_isDone 1289 = .ok (.bipush 24, 2) := by decide +kernel
theorem dL_isDone_1291 : decode cL_isDone 1291 = .ok (.idiv, 1) := by decide +kernel
theorem dL_isDone_1292 : decode cL_isDone 1292 = .ok (.iload 11, 2) := by decide +kernel
theorem dL_isDone_1294 : decode cL_isDone 1294 = .ok (.isub, 1) := by decide +kernel
theorem dL_isDone_1295 : decode cL_isDone 1295 = .ok (.goto 4, 3) := by decide +kernel
theorem dL_isDone_1298 : decode cL_isDone 1298 = .ok (.iconst 0, 1) := by decide +kernel
theorem dL_isDone_1299 : decode cL_isDone 1299 = .ok (.istore 12, 2) := by decide +kernel
theorem dL_isDone_1301 : decode cL_isDone 1301 = .ok (.aload_n 0, 1) := by decide +kernel
theorem dL_isDone_1302 : decode cL_isDone 1302 = .ok (.bipush 18, 2) := by decide +kernel
theorem dL_isDone_1304 : decode cL_isDone 1304 = .ok (.iload 5, 2) := by decide +kernel
theorem dL_isDone_1306 : decode cL_isDone 1306 = .ok (.iconst 0, 1) := by decide +kernel
theorem dL_isDone_1307 : decode cL_isDone 1307 = .ok (.iconst 0, 1) := by decide +kernel
theorem dL_isDone_1308 : decode cL_isDone 1308 = .ok (.iconst 0, 1) := by decide +kernel
theorem dL_isDone_1309 : decode cL_isDone 1309 = .ok (.iconst 0, 1) := by decide +kernel
theorem dL_isDone_1310 : decode cL_isDone 1310 = .ok (.invokestatic 137, 3) := by decide +kernel
theorem dL_isDone_1313 : decode cL_isDone 1313 = .ok (.iload 10, 2) := by decide +kernel
theorem dL_isDone_1315 : decode cL_isDone 1315 = .ok (.ifCond .eq 8, 3) := by decide +kernel
theorem dL_isDone_1318 : decode cL_isDone 1318 = .ok (.iload 12, 2) := by decide +kernel
theorem dL_isDone_1320 : decode cL_isDone 1320 = .ok (.goto 5, 3) := by decide +kernel
theorem dL_isDone_1323 : decode cL_isDone 1323 = .ok (.ldc 126, 2) := by decide +kernel
theorem dL_isDone_1325 : decode cL_isDone 1325 = .ok (.if_icmp .ne 23, 3) := by decide +kernel
theorem dL_isDone_1328 : decode cL_isDone 1328 = .ok (.iload 10, 2) := by decide +kernel
theorem dL_isDone_1330 : decode cL_isDone 1330 = .ok (.ifCond .eq 14, 3) := by decide +kernel
theorem dL_isDone_1333 : decode cL_isDone 1333 = .ok (.aload_n 0, 1) := by decide +kernel
theorem dL_isDone_1334 : decode cL_isDone 1334 = .ok (.iload 5, 2) := by decide +kernel
theorem dL_isDone_1336 : decode cL_isDone 1336 = .ok (.iconst 0, 1) := by decide +kernel
theorem dL_isDone_1337 : decode cL_isDone 1337 = .ok (.invokevirtual 96, 3) := by decide +kernel
theorem dL_isDone_1340 : decode cL_isDone 1340 = .ok (.iconst 4, 1) := by decide +kernel
theorem dL_isDone_1341 : decode cL_isDone 1341 = .ok (.if_icmp .ne 7, 3) := by decide +kernel
theorem dL_isDone_1344 : decode cL_isDone 1344 = .ok (.iconst 1, 1) := by decide +kernel
theorem dL_isDone_1345 : decode cL_isDone 1345 = .ok (.goto 4, 3) := by decide +kernel
theorem dL_isDone_1348 : decode cL_isDone 1348 = .ok (.iconst 0, 1) := by decide +kernel
theorem dL_isDone_1349 : decode cL_isDone 1349 = .ok (.ireturn, 1) := by decide +kernel
theorem dL_isPassed_0 : decode cL_isPassed 0 = .ok (.iconst 1, 1) := by decide +kernel
theorem dL_isPassed_1 : decode cL_isPassed 1 = .ok (.iload_n 3, 1) := by decide +kernel
theorem dL_isPassed_2 : decode cL_isPassed 2 = .ok (.iload_n 3, 1) := by decide +kernel
theorem dL_isPassed_3 : decode cL_isPassed 3 = .ok (.iconst 5, 1) := by decide +kernel
theorem dL_isPassed_4 : decode cL_isPassed 4 = .ok (.irem, 1) := by decide +kernel
theorem dL_isPassed_5 : decode cL_isPassed 5 = .ok (.ifCond .ne 8, 3) := by decide +kernel
theorem dL_isPassed_8 : decode cL_isPassed 8 = .ok (.bipush 60, 2) := by decide +kernel
theorem dL_isPassed_10 : decode cL_isPassed 10 = .ok (.goto 5, 3) := by decide +kernel
theorem dL_isPassed_13 : decode cL_isPassed 13 = .ok (.bipush 20, 2) := by decide +kernel
theorem dL_isPassed_15 : decode cL_isPassed 15 = .ok (.irem, 1) := by decide +kernel
theorem dL_isPassed_16 : decode cL_isPassed 16 = .ok (.iadd, 1) := by decide +kernel
theorem dL_isPassed_17 : decode cL_isPassed 17 = .ok (.istore 4, 2) := by decide +kernel
theorem dL_isPassed_19 : decode cL_isPassed 19 = .ok (.bipush 6, 2) := by decide +kernel
theorem dL_isPassed_21 : decode cL_isPassed 21 = .ok (.newarray .int, 2) := by decide +kernel
theorem dL_isPassed_23 : decode cL_isPassed 23 = .ok (.astore 5, 2) := by decide +kernel
theorem dL_isPassed_25 : decode cL_isPassed 25 = .ok (.iconst 0, 1) := by decide +kernel
theorem dL_isPassed_26 : decode cL_isPassed 26 = .ok (.istore 6, 2) := by decide +kernel
theorem dL_isPassed_28 : decode cL_isPassed 28 = .ok (.iload 6, 2) := by decide +kernel
theorem dL_isPassed_30 : decode cL_isPassed 30 = .ok (.aload_n 1, 1) := by decide +kernel
theorem dL_isPassed_31 : decode cL_isPassed 31 = .ok (.iconst 1, 1) := by decide +kernel
theorem dL_isPassed_32 : decode cL_isPassed 32 = .ok (.iaload, 1) := by decide +kernel
theorem dL_isPassed_33 : decode cL_isPassed 33 = .ok (.if_icmp .ge 20, 3) := by decide +kernel
theorem dL_isPassed_36 : decode cL_isPassed 36 = .ok (.aload 5, 2) := by decide +kernel
theorem dL_isPassed_38 : decode cL_isPassed 38 = .ok (.iload 6, 2) := by decide +kernel
theorem dL_isPassed_40 : decode cL_isPassed 40 = .ok (.aload_n 0, 1) := by decide +kernel
theorem dL_isPassed_41 : decode cL_isPassed 41 = .ok (.iload 6, 2) := by decide +kernel
theorem dL_isPassed_43 : decode cL_isPassed 43 = .ok (.invokevirtual 105, 3) := by decide +kernel
theorem dL_isPassed_46 : decode cL_isPassed 46 = .ok (.iastore, 1) := by decide +kernel
theorem dL_isPassed_47 : decode cL_isPassed 47 = .ok (.iinc 6 1, 3) := by decide +kernel
theorem dL_isPassed_50 : decode cL_isPassed 50 = .ok (.goto (-22), 3) := by decide +kernel
theorem dL_isPassed_53 : decode cL_isPassed 53 = .ok (.aload_n 0, 1) := by decide +kernel
theorem dL_isPassed_54 : decode cL_isPassed 54 = .ok (.iconst 5, 1) := by decide +kernel
theorem dL_isPassed_55 : decode cL_isPassed 55 = .ok (.invokevirtual 111, 3) := by decide +kernel
theorem dL_isPassed_58 : decode cL_isPassed 58 = .ok (.lstore 6, 2) := by decide +kernel
theorem dL_isPassed_60 : decode cL_isPassed 60 = .ok (.aload_n 1, 1) := by decide +kernel
theorem dL_isPassed_61 : decode cL_isPassed 61 = .ok (.iconst 0, 1) := by decide +kernel
theorem dL_isPassed_62 : decode cL_isPassed 62 = .ok (.dup2, 1) := by decide +kernel
theorem dL_isPassed_63 : decode cL_isPassed 63 = .ok (.iaload, 1) := by decide +kernel
theorem dL_isPassed_64 : decode cL_isPassed 64 = .ok (.iload 4, 2) := by decide +kernel
theorem dL_isPassed_66 : decode cL_isPassed 66 = .ok (.iadd, 1) := by decide +kernel
theorem dL_isPassed_67 : decode cL_isPassed 67 = .ok (.iastore, 1) := by decide +kernel
theorem dL_isPassed_68 : decode cL_isPassed 68 = .ok (.aload_n 0, 1) := by decide +kernel
theorem dL_isPassed_69 : decode cL_isPassed 69 = .ok (.bipush 19, 2) := by decide +kernel
theorem dL_isPassed_71 : decode cL_isPassed 71 = .ok (.iload 4, 2) := by decide +kernel
theorem dL_isPassed_73 : decode cL_isPassed 73 = .ok (.iconst 0, 1) := by decide +kernel
theorem dL_isPassed_74 : decode cL_isPassed 74 = .ok (.iconst 0, 1) := by decide +kernel
theorem dL_isPassed_75 : decode cL_isPassed 75 = .ok (.iconst 0, 1) := by decide +kernel
theorem dL_isPassed_76 : decode cL_isPassed 76 = .ok (.iconst 0, 1) := by decide +kernel
theorem dL_isPassed_77 : decode cL_isPassed 77 = .ok (.invokestatic 137, 3) := by decide +kernel
theorem dL_isPassed_80 : decode cL_isPassed 80 = .ok (.aload_n 1, 1) := by decide +kernel
theorem dL_isPassed_81 : decode cL_isPassed 81 = .ok (.iconst 0, 1) := by decide +kernel
theorem dL_isPassed_82 : decode cL_isPassed 82 = .ok (.iaload, 1) := by decide +kernel
theorem dL_isPassed_83 : decode cL_isPassed 83 = .ok (.if_icmp .ne 18, 3) := by decide +kernel
theorem dL_isPassed_86 : decode cL_isPassed 86 = .ok (.aload_n 0, 1) := by decide +kernel
theorem dL_isPassed_87 : decode cL_isPassed 87 = .ok (.iconst 5, 1) := by decide +kernel
theorem dL_isPassed_88 : decode cL_isPassed 88 = .ok (.invokevirtual 111, 3) := by decide +kernel
theorem dL_isPassed_91 : decode cL_isPassed 91 = .ok (.lload 6, 2) := by decide +kernel
theorem dL_isPassed_93 : decode cL_isPassed 93 = .ok (.lcmp, 1) := by decide +kernel
theorem dL_isPassed_94 : decode cL_isPassed 94 = .ok (.ifCond .lt 7, 3) := by decide +kernel
theorem dL_isPassed_97 : decode cL_isPassed 97 = .ok (.iconst 1, 1) := by decide +kernel
theorem dL_isPassed_98 : decode cL_isPassed 98 = .ok (.goto 4, 3) := by decide +kernel
theorem dL_isPassed_101 : decode cL_isPassed 101 = .ok (.iconst 0, 1) := by decide +kernel
theorem dL_isPassed_102 : decode cL_isPassed 102 = .ok (.istore 8, 2) := by decide +kernel
theorem dL_isPassed_104 : decode cL_isPassed 104 = .ok (.iconst 0, 1) := by decide +kernel
theorem dL_isPassed_105 : decode cL_isPassed 105 = .ok (.istore 9, 2) := by decide +kernel
theorem dL_isPassed_107 : decode cL_isPassed 107 = .ok (.iload 9, 2) := by decide +kernel
theorem dL_isPassed_109 : decode cL_isPassed 109 = .ok (.aload_n 1, 1) := by decide +kernel
theorem dL_isPassed_110 : decode cL_isPassed 110 = .ok (.iconst 1, 1) := by decide +kernel
theorem dL_isPassed_111 : decode cL_isPassed 111 = .ok (.iaload, 1) := by decide +kernel
theorem dL_isPassed_112 : decode cL_isPassed 112 = .ok (.if_icmp .ge 106, 3) := by decide +kernel
theorem dL_isPassed_115 : decode cL_isPassed 115 = .ok (.iload 8, 2) := by decide +kernel
theorem dL_isPassed_117 : decode cL_isPassed 117 = .ok (.ifCond .eq 101, 3) := by decide +kernel
theorem dL_isPassed_120 : decode cL_isPassed 120 = .ok (.aload_n 2, 1) := by decide +kernel
theorem dL_isPassed_121 : decode cL_isPassed 121 = .ok (.bipush 6, 2) := by decide +kernel
theorem dL_isPassed_123 : decode cL_isPassed 123 = .ok (.iload 9, 2) := by decide +kernel
theorem dL_isPassed_125 : decode cL_isPassed 125 = .ok (.iadd, 1) := by decide +kernel
theorem dL_isPassed_126 : decode cL_isPassed 126 = .ok (.iaload, 1) := by decide +kernel
theorem dL_isPassed_127 : decode cL_isPassed 127 = .ok (.istore 10, 2) := by decide +kernel
theorem dL_isPassed_129 : decode cL_isPassed 129 = .ok (.iconst 0, 1) := by decide +kernel
theorem dL_isPassed_130 : decode cL_isPassed 130 = .ok (.istore 11, 2) := by decide +kernel
theorem dL_isPassed_132 : decode cL_isPassed 132 = .ok (.iload 11, 2) := by decide +kernel
theorem dL_isPassed_134 : decode cL_isPassed 134 = .ok (.aload_n 1, 1) := by decide +kernel
theorem dL_isPassed_135 : decode cL_isPassed 135 = .ok (.iconst 1, 1) := by decide +kernel
theorem dL_isPassed_136 : decode cL_isPassed 136 = .ok (.iaload, 1) := by decide +kernel
theorem dL_isPassed_137 : decode cL_isPassed 137 = .ok (.if_icmp .ge 39, 3) := by decide +kernel
theorem dL_isPassed_140 : decode cL_isPassed 140 = .ok (.iload 10, 2) := by decide +kernel
theorem dL_isPassed_142 : decode cL_isPassed 142 = .ok (.aload_n 2, 1) := by decide +kernel
theorem dL_isPassed_143 : decode cL_isPassed 143 = .ok (.bipush 12, 2) := by decide +kernel
theorem dL_isPassed_145 : decode cL_isPassed 145 = .ok (.iload 11, 2) := by decide +kernel
theorem dL_isPassed_147 : decode cL_isPassed 147 = .ok (.iadd, 1) := by decide +kernel
theorem dL_isPassed_148 : decode cL_isPassed 148 = .ok (.iaload, 1) := by decide +kernel
theorem dL_isPassed_149 : decode cL_isPassed 149 = .ok (.iload 9, 2) := by decide +kernel
theorem dL_isPassed_151 : decode cL_isPassed 151 = .ok (.if_icmp .ne 15, 3) := by decide +kernel
theorem dL_isPassed_154 : decode cL_isPassed 154 = .ok (.aload_n 2, 1) := by decide +kernel
theorem dL_isPassed_155 : decode cL_isPassed 155 = .ok (.bipush 6, 2) := by decide +kernel
theorem dL_isPassed_157 : decode cL_isPassed 157 = .ok (.iload 11, 2) := by decide +kernel
theorem dL_isPassed_159 : decode cL_isPassed 159 = .ok (.iadd, 1) := by decide +kernel
theorem dL_isPassed_160 : decode cL_isPassed 160 = .ok (.iaload, 1) := by decide +kernel
theorem dL_isPassed_161 : decode cL_isPassed 161 = .ok (.iconst 2, 1) := by decide +kernel
theorem dL_isPassed_162 : decode cL_isPassed 162 = .ok (.idiv, 1) := by decide +kernel
theorem dL_isPassed_163 : decode cL_isPassed 163 = .ok (.goto 4, 3) := by decide +kernel
theorem dL_isPassed_166 : decode cL_isPassed 166 = .ok (.iconst 0, 1) := by decide +kernel
theorem dL_isPassed_167 : decode cL_isPassed 167 = .ok (.iadd, 1) := by decide +kernel
theorem dL_isPassed_168 : decode cL_isPassed 168 = .ok (.istore 10, 2) := by decide +kernel
theorem dL_isPassed_170 : decode cL_isPassed 170 = .ok (.iinc 11 1, 3) := by decide +kernel
theorem dL_isPassed_173 : decode cL_isPassed 173 = .ok (.goto (-41), 3) := by decide +kernel
theorem dL_isPassed_176 : decode cL_isPassed 176 = .ok (.aload_n 0, 1) := by decide +kernel
theorem dL_isPassed_177 : decode cL_isPassed 177 = .ok (.iload 9, 2) := by decide +kernel
theorem dL_isPassed_179 : decode cL_isPassed 179 = .ok (.invokevirtual 105, 3) := by decide +kernel
theorem dL_isPassed_182 : decode cL_isPassed 182 = .ok (.aload 5, 2) := by decide +kernel
theorem dL_isPassed_184 : decode cL_isPassed 184 = .ok (.iload 9, 2) := by decide +kernel
theorem dL_isPassed_186 : decode cL_isPassed 186 = .ok (.iaload, 1) := by decide +kernel
theorem dL_isPassed_187 : decode cL_isPassed 187 = .ok (.iload 4, 2) := by decide +kernel
theorem dL_isPassed_189 : decode cL_isPassed 189 = .ok (.iload 10, 2) := by decide +kernel
theorem dL_isPassed_191 : decode cL_isPassed 191 = .ok (.imul, 1) := by decide +kernel
theorem dL_isPassed_192 : decode cL_isPassed 192 = .ok (.iadd, 1) := by decide +kernel
theorem dL_isPassed_193 : decode cL_isPassed 193 = .ok (.if_icmp .gt 16, 3) := by decide +kernel
theorem dL_isPassed_196 : decode cL_isPassed 196 = .ok (.aload_n 0, 1) := by decide +kernel
theorem dL_isPassed_197 : decode cL_isPassed 197 = .ok (.iload 9, 2) := by decide +kernel
theorem dL_isPassed_199 : decode cL_isPassed 199 = .ok (.invokevirtual 105, 3) := by decide +kernel
theorem dL_isPassed_202 : decode cL_isPassed 202 = .ok (.ifCond .lt 7, 3) := by decide +kernel
theorem dL_isPassed_205 : decode cL_isPassed 205 = .ok (.iconst 1, 1) := by decide +kernel
theorem dL_isPassed_206 : decode cL_isPassed 206 = .ok (.goto 4, 3) := by decide +kernel
theorem dL_isPassed_209 : decode cL_isPassed 209 = .ok (.iconst 0, 1) := by decide +kernel
theorem dL_isPassed_210 : decode cL_isPassed 210 = .ok (.istore 8, 2) := by decide +kernel
theorem dL_isPassed_212 : decode cL_isPassed 212 = .ok (.iinc 9 1, 3) := by decide +kernel
theorem dL_isPassed_215 : decode cL_isPassed 215 = .ok (.goto (-108), 3) := by decide +kernel
theorem dL_isPassed_218 : decode cL_isPassed 218 = .ok (.iload 8, 2) := by decide +kernel
theorem dL_isPassed_220 : decode cL_isPassed 220 = .ok (.ireturn, 1) := by decide +kernel
theorem dL_law_0 : decode cL_law 0 = .ok (.new 10, 3) := by decide +kernel
theorem dL_law_3 : decode cL_law 3 = .ok (.dup, 1) := by decide +kernel
theorem dL_law_4 : decode cL_law 4 = .ok (.invokespecial 161, 3) := by decide +kernel
theorem dL_law_7 : decode cL_law 7 = .ok (.astore_n 1, 1) := by decide +kernel
theorem dL_law_8 : decode cL_law 8 = .ok (.iconst 4, 1) := by decide +kernel
theorem dL_law_9 : decode cL_law 9 = .ok (.newarray .int, 2) := by decide +kernel
theorem dL_law_11 : decode cL_law 11 = .ok (.astore_n 2, 1) := by decide +kernel
theorem dL_law_12 : decode cL_law 12 = .ok (.bipush 18, 2) := by decide +kernel
theorem dL_law_14 : decode cL_law 14 = .ok (.newarray .int, 2) := by decide +kernel
