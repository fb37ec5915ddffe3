/-! PART 68: the law's cases -/
theorem dL_law_1015 : decode cL_law 1015 = .ok (.aload_n 1, 1) := by decide +kernel
theorem dL_law_1016 : decode cL_law 1016 = .ok (.aload_n 0, 1) := by decide +kernel
theorem dL_law_1017 : decode cL_law 1017 = .ok (.iload 4, 2) := by decide +kernel
theorem dL_law_1019 : decode cL_law 1019 = .ok (.iconst 1, 1) := by decide +kernel
theorem dL_law_1020 : decode cL_law 1020 = .ok (.iadd, 1) := by decide +kernel
theorem dL_law_1021 : decode cL_law 1021 = .ok (.iaload, 1) := by decide +kernel
theorem dL_law_1022 : decode cL_law 1022 = .ok (.aload_n 3, 1) := by decide +kernel
theorem dL_law_1023 : decode cL_law 1023 = .ok (.invokestatic 186, 3) := by decide +kernel
theorem dL_law_1026 : decode cL_law 1026 = .ok (.istore 5, 2) := by decide +kernel
theorem dL_law_1028 : decode cL_law 1028 = .ok (.aload_n 2, 1) := by decide +kernel
theorem dL_law_1029 : decode cL_law 1029 = .ok (.aload_n 0, 1) := by decide +kernel
theorem dL_law_1030 : decode cL_law 1030 = .ok (.iload 4, 2) := by decide +kernel
theorem dL_law_1032 : decode cL_law 1032 = .ok (.iconst 1, 1) := by decide +kernel
theorem dL_law_1033 : decode cL_law 1033 = .ok (.iadd, 1) := by decide +kernel
theorem dL_law_1034 : decode cL_law 1034 = .ok (.iaload, 1) := by decide +kernel
theorem dL_law_1035 : decode cL_law 1035 = .ok (.invokevirtual 189, 3) := by decide +kernel
theorem dL_law_1038 : decode cL_law 1038 = .ok (.istore 6, 2) := by decide +kernel
theorem dL_law_1040 : decode cL_law 1040 = .ok (.aload_n 2, 1) := by decide +kernel
theorem dL_law_1041 : decode cL_law 1041 = .ok (.invokevirtual 150, 3) := by decide +kernel
theorem dL_law_1044 : decode cL_law 1044 = .ok (.iload 5, 2) := by decide +kernel
theorem dL_law_1046 : decode cL_law 1046 = .ok (.if_icmp .eq 5, 3) := by decide +kernel
theorem dL_law_1051 : decode cL_law 1051 = .ok (.iload 5, 2) := by decide +kernel
theorem dL_law_1053 : decode cL_law 1053 = .ok (.ifCond .ne 16, 3) := by decide +kernel
theorem dL_law_1056 : decode cL_law 1056 = .ok (.aload_n 3, 1) := by decide +kernel
theorem dL_law_1057 : decode cL_law 1057 = .ok (.getfield 13, 3) := by decide +kernel
theorem dL_law_1060 : decode cL_law 1060 = .ok (.iload 6, 2) := by decide +kernel
theorem dL_law_1062 : decode cL_law 1062 = .ok (.i2l, 1) := by decide +kernel
theorem dL_law_1063 : decode cL_law 1063 = .ok (.lcmp, 1) := by decide +kernel
theorem dL_law_1064 : decode cL_law 1064 = .ok (.ifCond .eq 5, 3) := by decide +kernel
theorem dL_law_1069 : decode cL_law 1069 = .ok (.goto 1739, 3) := by decide +kernel
theorem dL_law_1072 : decode cL_law 1072 = .ok (.aload_n 1, 1) := by decide +kernel
theorem dL_law_1073 : decode cL_law 1073 = .ok (.aload_n 0, 1) := by decide +kernel
theorem dL_law_1074 : decode cL_law 1074 = .ok (.iload 4, 2) := by decide +kernel
theorem dL_law_1076 : decode cL_law 1076 = .ok (.iconst 1, 1) := by decide +kernel
theorem dL_law_1077 : decode cL_law 1077 = .ok (.iadd, 1) := by decide +kernel
theorem dL_law_1078 : decode cL_law 1078 = .ok (.iaload, 1) := by decide +kernel
theorem dL_law_1079 : decode cL_law 1079 = .ok (.aload_n 3, 1) := by decide +kernel
theorem dL_law_1080 : decode cL_law 1080 = .ok (.invokestatic 190, 3) := by decide +kernel
theorem dL_law_1083 : decode cL_law 1083 = .ok (.istore 5, 2) := by decide +kernel
theorem dL_law_1085 : decode cL_law 1085 = .ok (.aload_n 2, 1) := by decide +kernel
theorem dL_law_1086 : decode cL_law 1086 = .ok (.aload_n 0, 1) := by decide +kernel
theorem dL_law_1087 : decode cL_law 1087 = .ok (.iload 4, 2) := by decide +kernel
theorem dL_law_1089 : decode cL_law 1089 = .ok (.iconst 1, 1) := by decide +kernel
theorem dL_law_1090 : decode cL_law 1090 = .ok (.iadd, 1) := by decide +kernel
theorem dL_law_1091 : decode cL_law 1091 = .ok (.iaload, 1) := by decide +kernel
theorem dL_law_1092 : decode cL_law 1092 = .ok (.invokevirtual 192, 3) := by decide +kernel
theorem dL_law_1095 : decode cL_law 1095 = .ok (.istore 6, 2) := by decide +kernel
theorem dL_law_1097 : decode cL_law 1097 = .ok (.aload_n 2, 1) := by decide +kernel
theorem dL_law_1098 : decode cL_law 1098 = .ok (.invokevirtual 150, 3) := by decide +kernel
theorem dL_law_1101 : decode cL_law 1101 = .ok (.iload 5, 2) := by decide +kernel
theorem dL_law_1103 : decode cL_law 1103 = .ok (.if_icmp .eq 5, 3) := by decide +kernel
theorem dL_law_1108 : decode cL_law 1108 = .ok (.iload 5, 2) := by decide +kernel
theorem dL_law_1110 : decode cL_law 1110 = .ok (.ifCond .ne 16, 3) := by decide +kernel
theorem dL_law_1113 : decode cL_law 1113 = .ok (.aload_n 3, 1) := by decide +kernel
theorem dL_law_1114 : decode cL_law 1114 = .ok (.getfield 13, 3) := by decide +kernel
theorem dL_law_1117 : decode cL_law 1117 = .ok (.iload 6, 2) := by decide +kernel
theorem dL_law_1119 : decode cL_law 1119 = .ok (.i2l, 1) := by decide +kernel
theorem dL_law_1120 : decode cL_law 1120 = .ok (.lcmp, 1) := by decide +kernel
theorem dL_law_1121 : decode cL_law 1121 = .ok (.ifCond .eq 5, 3) := by decide +kernel
theorem dL_law_1126 : decode cL_law 1126 = .ok (.goto 1682, 3) := by decide +kernel
theorem dL_law_1129 : decode cL_law 1129 = .ok (.aload_n 1, 1) := by decide +kernel
theorem dL_law_1130 : decode cL_law 1130 = .ok (.aload_n 0, 1) := by decide +kernel
theorem dL_law_1131 : decode cL_law 1131 = .ok (.iload 4, 2) := by decide +kernel
theorem dL_law_1133 : decode cL_law 1133 = .ok (.iconst 1, 1) := by decide +kernel
theorem dL_law_1134 : decode cL_law 1134 = .ok (.iadd, 1) := by decide +kernel
theorem dL_law_1135 : decode cL_law 1135 = .ok (.iaload, 1) := by decide +kernel
theorem dL_law_1136 : decode cL_law 1136 = .ok (.aload_n 3, 1) := by decide +kernel
theorem dL_law_1137 : decode cL_law 1137 = .ok (.invokestatic 193, 3) := by decide +kernel
theorem dL_law_1140 : decode cL_law 1140 = .ok (.istore 5, 2) := by decide +kernel
theorem dL_law_1142 : decode cL_law 1142 = .ok (.aload_n 2, 1) := by decide +kernel
theorem dL_law_1143 : decode cL_law 1143 = .ok (.aload_n 0, 1) := by decide +kernel
theorem dL_law_1144 : decode cL_law 1144 = .ok (.iload 4, 2) := by decide +kernel
theorem dL_law_1146 : decode cL_law 1146 = .ok (.iconst 1, 1) := by decide +kernel
theorem dL_law_1147 : decode cL_law 1147 = .ok (.iadd, 1) := by decide +kernel
theorem dL_law_1148 : decode cL_law 1148 = .ok (.iaload, 1) := by decide +kernel
theorem dL_law_1149 : decode cL_law 1149 = .ok (.invokevirtual 195, 3) := by decide +kernel
theorem dL_law_1152 : decode cL_law 1152 = .ok (.istore 6, 2) := by decide +kernel
theorem dL_law_1154 : decode cL_law 1154 = .ok (.aload_n 2, 1) := by decide +kernel
theorem dL_law_1155 : decode cL_law 1155 = .ok (.invokevirtual 150, 3) := by decide +kernel
theorem dL_law_1158 : decode cL_law 1158 = .ok (.iload 5, 2) := by decide +kernel
theorem dL_law_1160 : decode cL_law 1160 = .ok (.if_icmp .eq 5, 3) := by decide +kernel
theorem dL_law_1165 : decode cL_law 1165 = .ok (.iload 5, 2) := by decide +kernel
theorem dL_law_1167 : decode cL_law 1167 = .ok (.ifCond .ne 16, 3) := by decide +kernel
theorem dL_law_1170 : decode cL_law 1170 = .ok (.aload_n 3, 1) := by decide +kernel
theorem dL_law_1171 : decode cL_law 1171 = .ok (.getfield 13, 3) := by decide +kernel
theorem dL_law_1174 : decode cL_law 1174 = .ok (.iload 6, 2) := by decide +kernel
theorem dL_law_1176 : decode cL_law 1176 = .ok (.i2l, 1) := by decide +kernel
theorem dL_law_1177 : decode cL_law 1177 = .ok (.lcmp, 1) := by decide +kernel
theorem dL_law_1178 : decode cL_law 1178 = .ok (.ifCond .eq 5, 3) := by decide +kernel
theorem dL_law_1183 : decode cL_law 1183 = .ok (.goto 1625, 3) := by decide +kernel
theorem dL_law_1186 : decode cL_law 1186 = .ok (.aload_n 1, 1) := by decide +kernel
theorem dL_law_1187 : decode cL_law 1187 = .ok (.aload_n 0, 1) := by decide +kernel
theorem dL_law_1188 : decode cL_law 1188 = .ok (.iload 4, 2) := by decide +kernel
theorem dL_law_1190 : decode cL_law 1190 = .ok (.iconst 1, 1) := by decide +kernel
theorem dL_law_1191 : decode cL_law 1191 = .ok (.iadd, 1) := by decide +kernel
theorem dL_law_1192 : decode cL_law 1192 = .ok (.iaload, 1) := by decide +kernel
theorem dL_law_1193 : decode cL_law 1193 = .ok (.aload_n 3, 1) := by decide +kernel
theorem dL_law_1194 : decode cL_law 1194 = .ok (.invokestatic 196, 3) := by decide +kernel
theorem dL_law_1197 : decode cL_law 1197 = .ok (.istore 5, 2) := by decide +kernel
theorem dL_law_1199 : decode cL_law 1199 = .ok (.aload_n 2, 1) := by decide +kernel
theorem dL_law_1200 : decode cL_law 1200 = .ok (.aload_n 0, 1) := by decide +kernel
theorem dL_law_1201 : decode cL_law 1201 = .ok (.iload 4, 2) := by decide +kernel
theorem dL_law_1203 : decode cL_law 1203 = .ok (.iconst 1, 1) := by decide +kernel
theorem dL_law_1204 : decode cL_law 1204 = .ok (.iadd, 1) := by decide +kernel
theorem dL_law_1205 : decode cL_law 1205 = .ok (.iaload, 1) := by decide +kernel
theorem dL_law_1206 : decode cL_law 1206 = .ok (.invokevirtual 198, 3) := by decide +kernel
theorem dL_law_1209 : decode cL_law 1209 = .ok (.istore 6, 2) := by decide +kernel
theorem dL_law_1211 : decode cL_law 1211 = .ok (.aload_n 2, 1) := by decide +kernel
theorem dL_law_1212 : decode cL_law 1212 = .ok (.invokevirtual 150, 3) := by decide +kernel
theorem dL_law_1215 : decode cL_law 1215 = .ok (.iload 5, 2) := by decide +kernel
theorem dL_law_1217 : decode cL_law 1217 = .ok (.if_icmp .eq 5, 3) := by decide +kernel
theorem dL_law_1222 : decode cL_law 1222 = .ok (.iload 5, 2) := by decide +kernel
theorem dL_law_1224 : decode cL_law 1224 = .ok (.ifCond .ne 16, 3) := by decide +kernel
theorem dL_law_1227 : decode cL_law 1227 = .ok (.aload_n 3, 1) := by decide +kernel
theorem dL_law_1228 : decode cL_law 1228 = .ok (.getfield 13, 3) := by decide +kernel
theorem dL_law_1231 : decode cL_law 1231 = .ok (.iload 6, 2) := by decide +kernel
theorem dL_law_1233 : decode cL_law 1233 = .ok (.i2l, 1) := by decide +kernel
theorem dL_law_1234 : decode cL_law 1234 = .ok (.lcmp, 1) := by decide +kernel
theorem dL_law_1235 : decode cL_law 1235 = .ok (.ifCond .eq 5, 3) := by decide +kernel
theorem dL_law_1240 : decode cL_law 1240 = .ok (.goto 1568, 3) := by decide +kernel
theorem dL_law_1243 : decode cL_law 1243 = .ok (.aload_n 1, 1) := by decide +kernel
theorem dL_law_1244 : decode cL_law 1244 = .ok (.aload_n 0, 1) := by decide +kernel
theorem dL_law_1245 : decode cL_law 1245 = .ok (.iload 4, 2) := by decide +kernel
theorem dL_law_1247 : decode cL_law 1247 = .ok (.iconst 1, 1) := by decide +kernel
theorem dL_law_1248 : decode cL_law 1248 = .ok (.iadd, 1) := by decide +kernel
theorem dL_law_1249 : decode cL_law 1249 = .ok (.iaload, 1) := by decide +kernel
theorem dL_law_1250 : decode cL_law 1250 = .ok (.aload_n 3, 1) := by decide +kernel
theorem dL_law_1251 : decode cL_law 1251 = .ok (.invokestatic 199, 3) := by decide +kernel
theorem dL_law_1254 : decode cL_law 1254 = .ok (.istore 5, 2) := by decide +kernel
theorem dL_law_1256 : decode cL_law 1256 = .ok (.aload_n 2, 1) := by decide +kernel
theorem dL_law_1257 : decode cL_law 1257 = .ok (.aload_n 0, 1) := by decide +kernel
theorem dL_law_1258 : decode cL_law 1258 = .ok (.iload 4, 2) := by decide +kernel
theorem dL_law_1260 : decode cL_law 1260 = .ok (.iconst 1, 1) := by decide +kernel
theorem dL_law_1261 : decode cL_law 1261 = .ok (.iadd, 1) := by decide +kernel
theorem dL_law_1262 : decode cL_law 1262 = .ok (.iaload, 1) := by decide +kernel
theorem dL_law_1263 : decode cL_law 1263 = .ok (.invokevirtual 201, 3) := by decide +kernel
theorem dL_law_1266 : decode cL_law 1266 = .ok (.istore 6, 2) := by decide +kernel
theorem dL_law_1268 : decode cL_law 1268 = .ok (.aload_n 2, 1) := by decide +kernel
theorem dL_law_1269 : decode cL_law 1269 = .ok (.invokevirtual 150, 3) := by decide +kernel
theorem dL_law_1272 : decode cL_law 1272 = .ok (.iload 5, 2) := by decide +kernel
theorem dL_law_1274 : decode cL_law 1274 = .ok (.if_icmp .eq 5, 3) := by decide +kernel
theorem dL_law_1279 : decode cL_law 1279 = .ok (.iload 5, 2) := by decide +kernel
theorem dL_law_1281 : decode cL_law 1281 = .ok (.ifCond .ne 16, 3) := by decide +kernel
theorem dL_law_1284 : decode cL_law 1284 = .ok (.aload_n 3, 1) := by decide +kernel
theorem dL_law_1285 : decode cL_law 1285 = .ok (.getfield 13, 3) := by decide +kernel
theorem dL_law_1288 : decode cL_law 1288 = .ok (.iload 6, 2) := by decide +kernel
theorem dL_law_1290 : decode cL_law 1290 = .ok (.i2l, 1) := by decide +kernel
theorem dL_law_1291 : decode cL_law 1291 = .ok (.lcmp, 1) := by decide +kernel
theorem dL_law_1292 : decode cL_law 1292 = .ok (.ifCond .eq 5, 3) := by decide +kernel
theorem dL_law_1297 : decode cL_law 1297 = .ok (.goto 1511, 3) := by decide +kernel
theorem dL_law_1300 : decode cL_law 1300 = .ok (.aload_n 1, 1) := by decide +kernel
theorem dL_law_1301 : decode cL_law 1301 = .ok (.aload_n 0, 1) := by decide +kernel
theorem dL_law_1302 : decode cL_law 1302 = .ok (.iload 4, 2) := by decide +kernel
theorem dL_law_1304 : decode cL_law 1304 = .ok (.iconst 1, 1) := by decide +kernel
theorem dL_law_1305 : decode cL_law 1305 = .ok (.iadd, 1) := by decide +kernel
theorem dL_law_1306 : decode cL_law 1306 = .ok (.iaload, 1) := by decide +kernel
theorem dL_law_1307 : decode cL_law 1307 = .ok (.aload_n 0, 1) := by decide +kernel
theorem dL_law_1308 : decode cL_law 1308 = .ok (.iload 4, 2) := by decide +kernel
theorem dL_law_1310 : decode cL_law 1310 = .ok (.iconst 2, 1) := by decide +kernel
theorem dL_law_1311 : decode cL_law 1311 = .ok (.iadd, 1) := by decide +kernel
theorem dL_law_1312 : decode cL_law 1312 = .ok (.iaload, 1) := by decide +kernel
theorem dL_law_1313 : decode cL_law 1313 = .ok (.aload_n 3, 1) := by decide +kernel
theorem dL_law_1314 : decode cL_law 1314 = .ok (.invokestatic 202, 3) := by decide +kernel
theorem dL_law_1317 : decode cL_law 1317 = .ok (.istore 5, 2) := by decide +kernel
theorem dL_law_1319 : decode cL_law 1319 = .ok (.aload_n 2, 1) := by decide +kernel
theorem dL_law_1320 : decode cL_law 1320 = .ok (.aload_n 0, 1) := by decide +kernel
theorem dL_law_1321 : decode cL_law 1321 = .ok (.iload 4, 2) := by decide +kernel
theorem dL_law_1323 : decode cL_law 1323 = .ok (.iconst 1, 1) := by decide +kernel
theorem dL_law_1324 : decode cL_law 1324 = .ok (.iadd, 1) := by decide +kernel
theorem dL_law_1325 : decode cL_law 1325 = .ok (.iaload, 1) := by decide +kernel
theorem dL_law_1326 : decode cL_law 1326 = .ok (.aload_n 0, 1) := by decide +kernel
theorem dL_law_1327 : decode cL_law 1327 = .ok (.iload 4, 2) := by decide +kernel
theorem dL_law_1329 : decode cL_law 1329 = .ok (.iconst 2, 1) := by decide +kernel
theorem dL_law_1330 : decode cL_law 1330 = .ok (.iadd, 1) := by decide +kernel
theorem dL_law_1331 : decode cL_law 1331 = .ok (.iaload, 1) := by decide +kernel
theorem dL_law_1332 : decode cL_law 1332 = .ok (.invokevirtual 204, 3) := by decide +kernel
theorem dL_law_1335 : decode cL_law 1335 = .ok (.istore 6, 2) := by decide +kernel
theorem dL_law_1337 : decode cL_law 1337 = .ok (.aload_n 2, 1) := by decide +kernel
theorem dL_law_1338 : decode cL_law 1338 = .ok (.invokevirtual 150, 3) := by decide +kernel
theorem dL_law_1341 : decode cL_law 1341 = .ok (.iload 5, 2) := by decide +kernel
theorem dL_law_1343 : decode cL_law 1343 = .ok (.if_icmp .eq 5, 3) := by decide +kernel
theorem dL_law_1348 : decode cL_law 1348 = .ok (.iload 5, 2) := by decide +kernel
theorem dL_law_1350 : decode cL_law 1350 = .ok (.ifCond .ne 16, 3) := by decide +kernel
theorem dL_law_1353 : decode cL_law 1353 = .ok (.aload_n 3, 1) := by decide +kernel
theorem dL_law_1354 : decode cL_law 1354 = .ok (.getfield 13, 3) := by decide +kernel
theorem dL_law_1357 : decode cL_law 1357 = .ok (.iload 6, 2) := by decide +kernel
theorem dL_law_1359 : decode cL_law 1359 = .ok (.i2l, 1) := by decide +kernel
theorem dL_law_1360 : decode cL_law 1360 = .ok (.lcmp, 1) := by decide +kernel
theorem dL_law_1361 : decode cL_law 1361 = .ok (.ifCond .eq 5, 3) := by decide +kernel
theorem dL_law_1366 : decode cL_law 1366 = .ok (.goto 1442, 3) := by decide +kernel
theorem dL_law_1369 : decode cL_law 1369 = .ok (.aload_n 1, 1) := by decide +kernel
theorem dL_law_1370 : decode cL_law 1370 = .ok (.aload_n 0, 1) := by decide +kernel
theorem dL_law_1371 : decode cL_law 1371 = .ok (.iload 4, 2) := by decide +kernel
theorem dL_law_1373 : decode cL_law 1373 = .ok (.iconst 1, 1) := by decide +kernel
theorem dL_law_1374 : decode cL_law 1374 = .ok (.iadd, 1) := by decide +kernel
theorem dL_law_1375 : decode cL_law 1375 = .ok (.iaload, 1) := by decide +kernel
theorem dL_law_1376 : decode cL_law 1376 = .ok (.aload_n 0, 1) := by decide +kernel
theorem dL_law_1377 : decode cL_law 1377 = .ok (.iload 4, 2) := by decide +kernel
theorem dL_law_1379 : decode cL_law 1379 = .ok (.iconst 2, 1) := by decide +kernel
theorem dL_law_1380 : decode cL_law 1380 = .ok (.iadd, 1) := by decide +kernel
theorem dL_law_1381 : decode cL_law 1381 = .ok (.iaload, 1) := by decide +kernel
theorem dL_law_1382 : decode cL_law 1382 = .ok (.aload_n 0, 1) := by decide +kernel
theorem dL_law_1383 : decode cL_law 1383 = .ok (.iload 4, 2) := by decide +kernel
theorem dL_law_1385 : decode cL_law 1385 = .ok (.iconst 3, 1) := by decide +kernel
theorem dL_law_1386 : decode cL_law 1386 = .ok (.iadd, 1) := by decide +kernel
theorem dL_law_1387 : decode cL_law 1387 = .ok (.iaload, 1) := by decide +kernel
theorem dL_law_1388 : decode cL_law 1388 = .ok (.aload_n 3, 1) := by decide +kernel
theorem dL_law_1389 : decode cL_law 1389 = .ok (.invokestatic 205, 3) := by decide +kernel
theorem dL_law_1392 : decode cL_law 1392 = .ok (.istore 5, 2) := by decide +kernel
theorem dL_law_1394 : decode cL_law 1394 = .ok (.aload_n 2, 1) := by decide +kernel
theorem dL_law_1395 : decode cL_law 1395 = .ok (.aload_n 0, 1) := by decide +kernel
theorem dL_law_1396 : decode cL_law 1396 = .ok (.iload 4, 2) := by decide +kernel
theorem dL_law_1398 : decode cL_law 1398 = .ok (.iconst 1, 1) := by decide +kernel
theorem dL_law_1399 : decode cL_law 1399 = .ok (.iadd, 1) := by decide +kernel
theorem dL_law_1400 : decode cL_law 1400 = .ok (.iaload, 1) := by decide +kernel
theorem dL_law_1401 : decode cL_law 1401 = .ok (.aload_n 0, 1) := by decide +kernel
theorem dL_law_1402 : decode cL_law 1402 = .ok (.iload 4, 2) := by decide +kernel
theorem dL_law_1404 : decode cL_law 1404 = .ok (.iconst 2, 1) := by decide +kernel
theorem dL_law_1405 : decode cL_law 1405 = .ok (.iadd, 1) := by decide +kernel
theorem dL_law_1406 : decode cL_law 1406 = .ok (.iaload, 1) := by decide +kernel
theorem dL_law_1407 : decode cL_law 1407 = .ok (.aload_n 0, 1) := by decide +kernel
theorem dL_law_1408 : decode cL_law 1408 = .ok (.iload 4, 2) := by decide +kernel
theorem dL_law_1410 : decode cL_law 1410 = .ok (.iconst 3, 1) := by decide +kernel
theorem dL_law_1411 : decode cL_law 1411 = .ok (.iadd, 1) := by decide +kernel
theorem dL_law_1412 : decode cL_law 1412 = .ok (.iaload, 1) := by decide +kernel
theorem dL_law_1413 : decode cL_law 1413 = .ok (.invokevirtual 207, 3) := by decide +kernel
theorem dL_law_1416 : decode cL_law 1416 = .ok (.istore 6, 2) := by decide +kernel
theorem dL_law_1418 : decode cL_law 1418 = .ok (.aload_n 2, 1) := by decide +kernel
theorem dL_law_1419 : decode cL_law 1419 = .ok (.invokevirtual 150, 3) := by decide +kernel
theorem dL_law_1422 : decode cL_law 1422 = .ok (.iload 5, 2) := by decide +kernel
theorem dL_law_1424 : decode cL_law 1424 = .ok (.if_icmp .eq 5, 3) := by decide +kernel
theorem dL_law_1429 : decode cL_law 1429 = .ok (.iload 5, 2) := by decide +kernel
theorem dL_law_1431 : decode cL_law 1431 = .ok (.ifCond .ne 16, 3) := by decide +kernel
theorem dL_law_1434 : decode cL_law 1434 = .ok (.aload_n 3, 1) := by decide +kernel
theorem dL_law_1435 : decode cL_law 1435 = .ok (.getfield 13, 3) := by decide +kernel
theorem dL_law_1438 : decode cL_law 1438 = .ok (.iload 6, 2) := by decide +kernel
theorem dL_law_1440 : decode cL_law 1440 = .ok (.i2l, 1) := by decide +kernel
theorem dL_law_1441 : decode cL_law 1441 = .ok (.lcmp, 1) := by decide +kernel
theorem dL_law_1442 : decode cL_law 1442 = .ok (.ifCond .eq 5, 3) := by decide +kernel
theorem dL_law_1447 : decode cL_law 1447 = .ok (.goto 1361, 3) := by decide +kernel
theorem dL_law_1450 : decode cL_law 1450 = .ok (.aload_n 1, 1) := by decide +kernel
theorem dL_law_1451 : decode cL_law 1451 = .ok (.aload_n 0, 1) := by decide +kernel
theorem dL_law_1452 : decode cL_law 1452 = .ok (.iload 4, 2) := by decide +kernel
theorem dL_law_1454 : decode cL_law 1454 = .ok (.iconst 1, 1) := by decide +kernel
theorem dL_law_1455 : decode cL_law 1455 = .ok (.iadd, 1) := by decide +kernel
theorem dL_law_1456 : decode cL_law 1456 = .ok (.iaload, 1) := by decide +kernel
theorem dL_law_1457 : decode cL_law 1457 = .ok (.aload_n 0, 1) := by decide +kernel
theorem dL_law_1458 : decode cL_law 1458 = .ok (.iload 4, 2) := by decide +kernel
theorem dL_law_1460 : decode cL_law 1460 = .ok (.iconst 2, 1) := by decide +kernel
theorem dL_law_1461 : decode cL_law 1461 = .ok (.iadd, 1) := by decide +kernel
theorem dL_law_1462 : decode cL_law 1462 = .ok (.iaload, 1) := by decide +kernel
theorem dL_law_1463 : decode cL_law 1463 = .ok (.aload_n 0, 1) := by decide +kernel
theorem dL_law_1464 : decode cL_law 1464 = .ok (.iload 4, 2) := by decide +kernel
theorem dL_law_1466 : decode cL_law 1466 = .ok (.iconst 3, 1) := by decide +kernel
theorem dL_law_1467 : decode cL_law 1467 = .ok (.iadd, 1) := by decide +kernel
theorem dL_law_1468 : decode cL_law 1468 = .ok (.iaload, 1) := by decide +kernel
theorem dL_law_1469 : decode cL_law 1469 = .ok (.aload_n 0, 1) := by decide +kernel
theorem dL_law_1470 : decode cL_law 1470 = .ok (.iload 4, 2) := by decide +kernel
theorem dL_law_1472 : decode cL_law 1472 = .ok (.iconst 4, 1) := by decide +kernel
theorem dL_law_1473 : decode cL_law 1473 = .ok (.iadd, 1) := by decide +kernel
theorem dL_law_1474 : decode cL_law 1474 = .ok (.iaload, 1) := by decide +kernel
theorem dL_law_1475 : decode cL_law 1475 = .ok (.aload_n 3, 1) := by decide +kernel
theorem dL_law_1476 : decode cL_law 1476 = .ok (.invokestatic 208, 3) := by decide +kernel
theorem dL_law_1479 : decode cL_law 1479 = .ok (.istore 5, 2) := by decide +kernel
theorem dL_law_1481 : decode cL_law 1481 = .ok (.aload_n 2, 1) := by decide +kernel
theorem dL_law_1482 : decode cL_law 1482 = .ok (.aload_n 0, 1) := by decide +kernel
theorem dL_law_1483 : decode cL_law 1483 = .ok (.iload 4, 2) := by decide +kernel
theorem dL_law_1485 : decode cL_law 1485 = .ok (.iconst 1, 1) := by decide +kernel
theorem dL_law_1486 : decode cL_law 1486 = .ok (.iadd, 1) := by decide +kernel
theorem dL_law_1487 : decode cL_law 1487 = .ok (.iaload, 1) := by decide +kernel
theorem dL_law_1488 : decode cL_law 1488 = .ok (.aload_n 0, 1) := by decide +kernel
theorem dL_law_1489 : decode cL_law 1489 = .ok (.iload 4, 2) := by decide +kernel
theorem dL_law_1491 : decode cL_law 1491 = .ok (.iconst 2, 1) := by decide +kernel
theorem dL_law_1492 : decode cL_law 1492 = .ok (.iadd, 1) := by decide +kernel
theorem dL_law_1493 : decode cL_law 1493 = .ok (.iaload, 1) := by decide +kernel
theorem dL_law_1494 : decode cL_law 1494 = .ok (.aload_n 0, 1) := by decide +kernel
theorem dL_law_1495 : decode cL_law 1495 = .ok (.iload 4, 2) := by decide +kernel
theorem dL_law_1497 : decode cL_law 1497 = .ok (.iconst 3, 1) := by decide +kernel
theorem dL_law_1498 : decode cL_law 1498 = .ok (.iadd, 1) := by decide +kernel
theorem dL_law_1499 : decode cL_law 1499 = .ok (.iaload, 1) := by decide +kernel
theorem dL_law_1500 : decode cL_law 1500 = .ok (.aload_n 0, 1) := by decide +kernel
theorem dL_law_1501 : decode cL_law 1501 = .ok (.iload 4, 2) := by decide +kernel
theorem dL_law_1503 : decode cL_law 1503 = .ok (.iconst 4, 1) := by decide +kernel
theorem dL_law_1504 : decode cL_law 1504 = .ok (.iadd, 1) := by decide +kernel
theorem dL_law_1505 : decode cL_law 1505 = .ok (.iaload, 1) := by decide +kernel
theorem dL_law_1506 : decode cL_law 1506 = .ok (.invokevirtual 210, 3) := by decide +kernel
theorem dL_law_1509 : decode cL_law 1509 = .ok (.istore 6, 2) := by decide +kernel
theorem dL_law_1511 : decode cL_law 1511 = .ok (.aload_n 2, 1) := by decide +kernel
theorem dL_law_1512 : decode cL_law 1512 = .ok (.invokevirtual 150, 3) := by decide +kernel
theorem dL_law_1515 : decode cL_law 1515 = .ok (.iload 5, 2) := by decide +kernel
theorem dL_law_1517 : decode cL_law 1517 = .ok (.if_icmp .eq 5, 3) := by decide +kernel
theorem dL_law_1522 : decode cL_law 1522 = .ok (.iload 5, 2) := by decide +kernel
theorem dL_law_1524 : decode cL_law 1524 = .ok (.ifCond .ne 16, 3) := by decide +kernel
theorem dL_law_1527 : decode cL_law 1527 = .ok (.aload_n 3, 1) := by decide +kernel
theorem dL_law_1528 : decode cL_law 1528 = .ok (.getfield 13, 3) := by decide +kernel
theorem dL_law_1531 : decode cL_law 1531 = .ok (.iload 6, 2) := by decide +kernel
theorem dL_law_1533 : decode cL_law 1533 = .ok (.i2l, 1) := by decide +kernel
theorem dL_law_1534 : decode cL_law 1534 = .ok (.lcmp, 1) := by decide +kernel
theorem dL_law_1535 : decode cL_law 1535 = .ok (.ifCond .eq 5, 3) := by decide +kernel
theorem dL_law_1540 : decode cL_law 1540 = .ok (.goto 1268, 3) := by decide +kernel
theorem dL_law_1543 : decode cL_law 1543 = .ok (.aload_n 1, 1) := by decide +kernel
theorem dL_law_1544 : decode cL_law 1544 = .ok (.aload_n 0, 1) := by decide +kernel
theorem dL_law_1545 : decode cL_law 1545 = .ok (.iload 4, 2) := by decide +kernel
theorem dL_law_1547 : decode cL_law 1547 = .ok (.iconst 1, 1) := by decide +kernel
theorem dL_law_1548 : decode cL_law 1548 = .ok (.iadd, 1) := by decide +kernel
theorem dL_law_1549 : decode cL_law 1549 = .ok (.iaload, 1) := by decide +kernel
theorem dL_law_1550 : decode cL_law 1550 = .ok (.aload_n 0, 1) := by decide +kernel
theorem dL_law_1551 : decode cL_law 1551 = .ok (.iload 4, 2) := by decide +kernel
theorem dL_law_1553 : decode cL_law 1553 = .ok (.iconst 2, 1) := by decide +kernel
theorem dL_law_1554 : decode cL_law 1554 = .ok (.iadd, 1) := by decide +kernel
theorem dL_law_1555 : decode cL_law 1555 = .ok (.iaload, 1) := by decide +kernel
theorem dL_law_1556 : decode cL_law 1556 = .ok (.aload_n 0, 1) := by decide +kernel
theorem dL_law_1557 : decode cL_law 1557 = .ok (.iload 4, 2) := by decide +kernel
theorem dL_law_1559 : decode cL_law 1559 = .ok (.iconst 3, 1) := by decide +kernel
theorem dL_law_1560 : decode cL_law 1560 = .ok (.iadd, 1) := by decide +kernel
theorem dL_law_1561 : decode cL_law 1561 = .ok (.iaload, 1) := by decide +kernel
theorem dL_law_1562 : decode cL_law 1562 = .ok (.aload_n 0, 1) := by decide +kernel
theorem dL_law_1563 : decode cL_law 1563 = .ok (.iload 4, 2) := by decide +kernel
theorem dL_law_1565 : decode cL_law 1565 = .ok (.iconst 4, 1) := by decide +kernel
theorem dL_law_1566 : decode cL_law 1566 = .ok (.iadd, 1) := by decide +kernel
theorem dL_law_1567 : decode cL_law 1567 = .ok (.iaload, 1) := by decide +kernel
theorem dL_law_1568 : decode cL_law 1568 = .ok (.aload_n 3, 1) := by decide +kernel
theorem dL_law_1569 : decode cL_law 1569 = .ok (.invokestatic 211, 3) := by decide +kernel
theorem dL_law_1572 : decode cL_law 1572 = .ok (.istore 5, 2) := by decide +kernel
theorem dL_law_1574 : decode cL_law 1574 = .ok (.aload_n 2, 1) := by decide +kernel
theorem dL_law_1575 : decode cL_law 1575 = .ok (.aload_n 0, 1) := by decide +kernel
theorem dL_law_1576 : decode cL_law 1576 = .ok (.iload 4, 2) := by decide +kernel
theorem dL_law_1578 : decode cL_law 1578 = .ok (.iconst 1, 1) := by decide +kernel
theorem dL_law_1579 : decode cL_law 1579 = .ok (.iadd, 1) := by decide +kernel
theorem dL_law_1580 : decode cL_law 1580 = .ok (.iaload, 1) := by decide +kernel
theorem dL_law_1581 : decode cL_law 1581 = .ok (.aload_n 0, 1) := by decide +kernel
theorem dL_law_1582 : decode cL_law 1582 = .ok (.iload 4, 2) := by decide +kernel
theorem dL_law_1584 : decode cL_law 1584 = .ok (.iconst 2, 1) := by decide +kernel
theorem dL_law_1585 : decode cL_law 1585 = .ok (.iadd, 1) := by decide +kernel
theorem dL_law_1586 : decode cL_law 1586 = .ok (.iaload, 1) := by decide +kernel
theorem dL_law_1587 : decode cL_law 1587 = .ok (.aload_n 0, 1) := by decide +kernel
theorem dL_law_1588 : decode cL_law 1588 = .ok (.iload 4, 2) := by decide +kernel
theorem dL_law_1590 : decode cL_law 1590 = .ok (.iconst 3, 1) := by decide +kernel
theorem dL_law_1591 : decode cL_law 1591 = .ok (.iadd, 1) := by decide +kernel
theorem dL_law_1592 : decode cL_law 1592 = .ok (.iaload, 1) := by decide +kernel
theorem dL_law_1593 : decode cL_law 1593 = .ok (.aload_n 0, 1) := by decide +kernel
theorem dL_law_1594 : decode cL_law 1594 = .ok (.iload 4, 2) := by decide +kernel
theorem dL_law_1596 : decode cL_law 1596 = .ok (.iconst 4, 1) := by decide +kernel
theorem dL_law_1597 : decode cL_law 1597 = .ok (.iadd, 1) := by decide +kernel
theorem dL_law_1598 : decode cL_law 1598 = .ok (.iaload, 1) := by decide +kernel
theorem dL_law_1599 : decode cL_law 1599 = .ok (.invokevirtual 213, 3) := by decide +kernel
theorem dL_law_1602 : decode cL_law 1602 = .ok (.istore 6, 2) := by decide +kernel
theorem dL_law_1604 : decode cL_law 1604 = .ok (.aload_n 2, 1) := by decide +kernel
theorem dL_law_1605 : decode cL_law 1605 = .ok (.invokevirtual 150, 3) := by decide +kernel
theorem dL_law_1608 : decode cL_law 1608 = .ok (.iload 5, 2) := by decide +kernel
theorem dL_law_1610 : decode cL_law 1610 = .ok (.if_icmp .eq 5, 3) := by decide +kernel
theorem dL_law_1615 : decode cL_law 1615 = .ok (.iload 5, 2) := by decide +kernel
theorem dL_law_1617 : decode cL_law 1617 = .ok (.ifCond .ne 16, 3) := by decide +kernel
theorem dL_law_1620 : decode cL_law 1620 = .ok (.aload_n 3, 1) := by decide +kernel
theorem dL_law_1621 : decode cL_law 1621 = .ok (.getfield 13, 3) := by decide +kernel
theorem dL_law_1624 : decode cL_law 1624 = .ok (.iload 6, 2) := by decide +kernel
theorem dL_law_1626 : decode cL_law 1626 = .ok (.i2l, 1) := by decide +kernel
theorem dL_law_1627 : decode cL_law 1627 = .ok (.lcmp, 1) := by decide +kernel
theorem dL_law_1628 : decode cL_law 1628 = .ok (.ifCond .eq 5, 3) := by decide +kernel
theorem dL_law_1633 : decode cL_law 1633 = .ok (.goto 1175, 3) := by decide +kernel
theorem dL_law_1636 : decode cL_law 1636 = .ok (.aload_n 1, 1) := by decide +kernel
theorem dL_law_1637 : decode cL_law 1637 = .ok (.aload_n 0, 1) := by decide +kernel
theorem dL_law_1638 : decode cL_law 1638 = .ok (.iload 4, 2) := by decide +kernel
theorem dL_law_1640 : decode cL_law 1640 = .ok (.iconst 1, 1) := by decide +kernel
theorem dL_law_1641 : decode cL_law 1641 = .ok (.iadd, 1) := by decide +kernel
theorem dL_law_1642 : decode cL_law 1642 = .ok (.iaload, 1) := by decide +kernel
theorem dL_law_1643 : decode cL_law 1643 = .ok (.aload_n 3, 1) := by decide +kernel
theorem dL_law_1644 : decode cL_law 1644 = .ok (.invokestatic 214, 3) := by decide +kernel
theorem dL_law_1647 : decode cL_law 1647 = .ok (.istore 5, 2) := by decide +kernel
theorem dL_law_1649 : decode cL_law 1649 = .ok (.aload_n 2, 1) := by decide +kernel
theorem dL_law_1650 : decode cL_law 1650 = .ok (.aload_n 0, 1) := by decide +kernel
theorem dL_law_1651 : decode cL_law 1651 = .ok (.iload 4, 2) := by decide +kernel
theorem dL_law_1653 : decode cL_law 1653 = .ok (.iconst 1, 1) := by decide +kernel
theorem dL_law_1654 : decode cL_law 1654 = .ok (.iadd, 1) := by decide +kernel
theorem dL_law_1655 : decode cL_law 1655 = .ok (.iaload, 1) := by decide +kernel
theorem dL_law_1656 : decode cL_law 1656 = .ok (.invokevirtual 216, 3) := by decide +kernel
theorem dL_law_1659 : decode cL_law 1659 = .ok (.istore 6, 2) := by decide +kernel
theorem dL_law_1661 : decode cL_law 1661 = .ok (.aload_n 2, 1) := by decide +kernel
theorem dL_law_1662 : decode cL_law 1662 = .ok (.invokevirtual 150, 3) := by decide +kernel
theorem dL_law_1665 : decode cL_law 1665 = .ok (.iload 5, 2) := by decide +kernel
theorem dL_law_1667 : decode cL_law 1667 = .ok (.if_icmp .eq 5, 3) := by decide +kernel
theorem dL_law_1672 : decode cL_law 1672 = .ok (.iload 5, 2) := by decide +kernel
theorem dL_law_1674 : decode cL_law 1674 = .ok (.ifCond .ne 16, 3) := by decide +kernel
theorem dL_law_1677 : decode cL_law 1677 = .ok (.aload_n 3, 1) := by decide +kernel
theorem dL_law_1678 : decode cL_law 1678 = .ok (.getfield 13, 3) := by decide +kernel
theorem dL_law_1681 : decode cL_law 1681 = .ok (.iload 6, 2) := by decide +kernel
theorem dL_law_1683 : decode cL_law 1683 = .ok (.i2l, 1) := by decide +kernel
theorem dL_law_1684 : decode cL_law 1684 = .ok (.lcmp, 1) := by decide +kernel
theorem dL_law_1685 : decode cL_law 1685 = .ok (.ifCond .eq 5, 3) := by decide +kernel
theorem dL_law_1690 : decode cL_law 1690 = .ok (.goto 1118, 3) := by decide +kernel
theorem dL_law_1693 : decode cL_law 1693 = .ok (.aload_n 1, 1) := by decide +kernel
theorem dL_law_1694 : decode cL_law 1694 = .ok (.aload_n 0, 1) := by decide +kernel
theorem dL_law_1695 : decode cL_law 1695 = .ok (.iload 4, 2) := by decide +kernel
theorem dL_law_1697 : decode cL_law 1697 = .ok (.iconst 1, 1) := by decide +kernel
theorem dL_law_1698 : decode cL_law 1698 = .ok (.iadd, 1) := by decide +kernel
theorem dL_law_1699 : decode cL_law 1699 = .ok (.iaload, 1) := by decide +kernel
theorem dL_law_1700 : decode cL_law 1700 = .ok (.aload_n 0, 1) := by decide +kernel
theorem dL_law_1701 : decode cL_law 1701 = .ok (.iload 4, 2) := by decide +kernel
theorem dL_law_1703 : decode cL_law 1703 = .ok (.iconst 2, 1) := by decide +kernel
theorem dL_law_1704 : decode cL_law 1704 = .ok (.iadd, 1) := by decide +kernel
theorem dL_law_1705 : decode cL_law 1705 = .ok (.iaload, 1) := by decide +kernel
theorem dL_law_1706 : decode cL_law 1706 = .ok (.aload_n 0, 1) := by decide +kernel
theorem dL_law_1707 : decode cL_law 1707 = .ok (.iload 4, 2) := by decide +kernel
theorem dL_law_1709 : decode cL_law 1709 = .ok (.iconst 3, 1) := by decide +kernel
theorem dL_law_1710 : decode cL_law 1710 = .ok (.iadd, 1) := by decide +kernel
theorem dL_law_1711 : decode cL_law 1711 = .ok (.iaload, 1) := by decide +kernel
theorem dL_law_1712 : decode cL_law 1712 = .ok (.aload_n 3, 1) := by decide +kernel
theorem dL_law_1713 : decode cL_law 1713 = .ok (.invokestatic 217, 3) := by decide +kernel
theorem dL_law_1716 : decode cL_law 1716 = .ok (.istore 5, 2) := by decide +kernel
theorem dL_law_1718 : decode cL_law 1718 = .ok (.aload_n 2, 1) := by decide +kernel
theorem dL_law_1719 : decode cL_law 1719 = .ok (.aload_n 0, 1) := by decide +kernel
theorem dL_law_1720 : decode cL_law 1720 = .ok (.iload 4, 2) := by decide +kernel
theorem dL_law_1722 : decode cL_law 1722 = .ok (.iconst 1, 1) := by decide +kernel
theorem dL_law_1723 : decode cL_law 1723 = .ok (.iadd, 1) := by decide +kernel
theorem dL_law_1724 : decode cL_law 1724 = .ok (.iaload, 1) := by decide +kernel
theorem dL_law_1725 : decode cL_law 1725 = .ok (.aload_n 0, 1) := by decide +kernel
theorem dL_law_1726 : decode cL_law 1726 = .ok (.iload 4, 2) := by decide +kernel
theorem dL_law_1728 : decode cL_law 1728 = .ok (.iconst 2, 1) := by decide +kernel
theorem dL_law_1729 : decode cL_law 1729 = .ok (.iadd, 1) := by decide +kernel
theorem dL_law_1730 : decode cL_law 1730 = .ok (.iaload, 1) := by decide +kernel
theorem dL_law_1731 : decode cL_law 1731 = .ok (.aload_n 0, 1) := by decide +kernel
theorem dL_law_1732 : decode cL_law 1732 = .ok (.iload 4, 2) := by decide +kernel
theorem dL_law_1734 : decode cL_law 1734 = .ok (.iconst 3, 1) := by decide +kernel
theorem dL_law_1735 : decode cL_law 1735 = .ok (.iadd, 1) := by decide +kernel
theorem dL_law_1736 : decode cL_law 1736 = .ok (.iaload, 1) := by decide +kernel
theorem dL_law_1737 : decode cL_law 1737 = .ok (.invokevirtual 219, 3) := by decide +kernel
theorem dL_law_1740 : decode cL_law 1740 = .ok (.istore 6, 2) := by decide +kernel
theorem dL_law_1742 : decode cL_law 1742 = .ok (.aload_n 2, 1) := by decide +kernel
theorem dL_law_1743 : decode cL_law 1743 = .ok (.invokevirtual 150, 3) := by decide +kernel
theorem dL_law_1746 : decode cL_law 1746 = .ok (.iload 5, 2) := by decide +kernel
theorem dL_law_1748 : decode cL_law 1748 = .ok (.if_icmp .eq 5, 3) := by decide +kernel
theorem dL_law_1753 : decode cL_law 1753 = .ok (.iload 5, 2) := by decide +kernel
theorem dL_law_1755 : decode cL_law 1755 = .ok (.ifCond .ne 16, 3) := by decide +kernel
theorem dL_law_1758 : decode cL_law 1758 = .ok (.aload_n 3, 1) := by decide +kernel
theorem dL_law_1759 : decode cL_law 1759 = .ok (.getfield 13, 3) := by decide +kernel
theorem dL_law_1762 : decode cL_law 1762 = .ok (.iload 6, 2) := by decide +kernel
theorem dL_law_1764 : decode cL_law 1764 = .ok (.i2l, 1) := by decide +kernel
theorem dL_law_1765 : decode cL_law 1765 = .ok (.lcmp, 1) := by decide +kernel
theorem dL_law_1766 : decode cL_law 1766 = .ok (.ifCond .eq 5, 3) := by decide +kernel
theorem dL_law_1771 : decode cL_law 1771 = .ok (.goto 1037, 3) := by decide +kernel
set_option maxRecDepth 20000 in
theorem lc_mark {X : zX} (C : z_C X cL_law RL 7 room_1) (h_st : (z_l X).stackTraces = false) {b L : Nat} {xs : Nat → Int32} (hX : va_X b L xs (z_s X) (z_s X).heap) (hbl : b < (z_s X).heap.size) (hbA : ¬ z_F X b) {jx : Nat} {a1 a2 a3 a4 : Int32} (hs1 : vp_in (nI (5 * jx) + 1) L ∧ xs (nI (5 * jx) + 1).toNatClampNeg = a1) (hs2 : vp_in (nI (5 * jx) + 2) L ∧ xs (nI (5 * jx) + 2).toNatClampNeg = a2) (hs3 : vp_in (nI (5 * jx) + 3) L ∧ xs (nI (5 * jx) + 3).toNatClampNeg = a3) (hs4 : vp_in (nI (5 * jx) + 4) L ∧ xs (nI (5 * jx) + 4).toNatClampNeg = a4) {u : sS} {x pa sp ln rf sb m pn td ou : Nat} {th : Int32} {on : Int64} {Mw : zM} (hI : s_LX (z_G X) x pa sp ln rf sb m pn td ou u u th on Mw) (hok : s_ok jx u) (hj : jx < 64) {kq nq : Nat} (hkq : kq + 4000 ≤ 600128) (hnq : nq + 60000 ≤ 7301098) (kk : ∀ v th on Mz, s_LX (z_G X) x pa sp ln rf sb m pn td ou v v th on Mz → s_ok (jx + 1) v → z_W X Mz (kq + 4000) (nq + 60000) 27 [(4, .int (nI (5 * (jx + 1)))), (0, .ref b), (1, .ref x), (2, .ref m), (3, .ref ou)] []) : z_W X Mw kq nq 1015 [(4, .int (nI (5 * jx))), (0, .ref b), (1, .ref x), (2, .ref m), (3, .ref ou)] [] := by
  refine z_aload_n C dL_law_1015 rfl 2 rfl ?_
  refine z_aload_n C dL_law_1016 rfl 1 rfl ?_
  refine z_iload C dL_law_1017 0 rfl ?_
  refine z_iconst C (v := 1) dL_law_1019 (by decide) ?_
  refine z_iadd C dL_law_1020 ?_
  refine z_sld C hX hbl hbA hs1.1 hs1.2 dL_law_1021 ?_
  refine z_aload_n C dL_law_1022 rfl 4 rfl ?_
  refine z_callHi (rest := []) (k' := kq + 8) (n' := nq + 48) C (s_LX_P hI (fun hC9 hd9 ho9 => w_mark (z_l X) h_st hC9 hd9 ho9 hok a1)) (ch_mark C ⟨Nat.le_of_ble_eq_true rfl, Nat.le_of_ble_eq_true rfl⟩) rfl rfl (Nat.le_of_ble_eq_true rfl) rfl rfl (by show _ ≤ 600128; omega) (by show _ ≤ 7301098; omega) dL_law_1023 (fun xk M1 hq => ?_)
  obtain ⟨hk1, on1, hI1, ho1⟩ := hq
  refine z_istore (lv' := [(5, .int xk), (4, .int (nI (5 * jx))), (0, .ref b), (1, .ref x), (2, .ref m), (3, .ref ou)]) C dL_law_1026 (by decide) rfl ?_
  refine z_aload_n C dL_law_1028 rfl 4 rfl ?_
  refine z_aload_n C dL_law_1029 rfl 2 rfl ?_
  refine z_iload C dL_law_1030 1 rfl ?_
  refine z_iconst C (v := 1) dL_law_1032 (by decide) ?_
  refine z_iadd C dL_law_1033 ?_
  refine z_sld C hX hbl hbA hs1.1 hs1.2 dL_law_1034 ?_
  obtain ⟨tp9, hm9⟩ := s_LX_m hI1
  refine z_callVi (rest := []) (k' := kq + 8) (n' := nq + 48) C (s_LX_R hI1 (fun hR9 => a_X5_mark (z_l X) hR9 hok (by omega) a1)) (cs_L_189 C ⟨Nat.le_of_ble_eq_true rfl, Nat.le_of_ble_eq_true rfl⟩) hm9 rfl rfl rfl rfl (Nat.le_of_ble_eq_true rfl) rfl rfl (by show _ ≤ 600128; omega) (by show _ ≤ 7301098; omega) dL_law_1035 (fun xr M2 hq => ?_)
  obtain ⟨hI2, hr2⟩ := hq
  obtain ⟨tp8, hm8⟩ := s_LX_m hI2
  obtain ⟨os8, hou8⟩ := s_LX_ou hI2
  refine z_istore (lv' := [(6, .int xr), (5, .int xk), (4, .int (nI (5 * jx))), (0, .ref b), (1, .ref x), (2, .ref m), (3, .ref ou)]) C dL_law_1038 (by decide) rfl ?_
  refine z_aload_n C dL_law_1040 rfl 5 rfl ?_
  refine z_callVi (rest := []) (k' := kq + 8) (n' := nq + 48) C (c_X5_thrown (z_l X) (z_G X) hm8) (cs_L_150 C ⟨Nat.le_of_ble_eq_true rfl, Nat.le_of_ble_eq_true rfl⟩) hm8 rfl rfl rfl rfl (Nat.le_of_ble_eq_true rfl) rfl rfl (by show _ ≤ 600128; omega) (by show _ ≤ 7301098; omega) dL_law_1041 (fun x3 M3 hq => ?_)
  obtain ⟨e3, rfl⟩ := hq
  rw [e3]
  refine z_iload C dL_law_1044 1 rfl ?_
  refine z_icmp_eq C (tgt := 1051) dL_law_1046 (by decide) (fun _ => ?_) (fun c1046 => absurd hk1.symm c1046)
  refine z_iload C dL_law_1051 1 rfl ?_
  refine z_if_ne C (tgt := 1069) dL_law_1053 (by decide) (fun c1053 => ?_) (fun c1053 => ?_)
  · refine z_goto C (tgt := 2808) dL_law_1069 (by decide) ?_
    refine z_iinc (v := nI (5 * (jx + 1))) (lv' := [(4, .int (nI (5 * (jx + 1)))), (6, .int xr), (5, .int xk), (0, .ref b), (1, .ref x), (2, .ref m), (3, .ref ou)]) C dL_law_2808 2 rfl (j_inc5 jx) (by decide) rfl ?_
    refine z_goto C (tgt := 27) dL_law_2811 (by decide) ?_
    refine z_fewer [0, 3, 4, 5, 6] rfl ?_
    refine z_widen (k' := kq + 4000) (n' := nq + 60000) (by omega) (by omega) ?_
    exact kk _ _ _ _ hI2 (so_mark hok)
  · refine z_aload_n C dL_law_1056 rfl 6 rfl ?_
    refine gf_L_13 C hou8 dL_law_1057 ?_
    refine z_iload C dL_law_1060 0 rfl ?_
    refine z_i2l C dL_law_1062 ?_
    refine z_lcmp C dL_law_1063 ?_
    refine z_if_eq C (tgt := 1069) dL_law_1064 (by decide) (fun _ => ?_) (fun c1064 => absurd (by rw [ho1 (hk1.symm.trans c1053), hr2 (hk1.symm.trans c1053)]; exact lg_cmp_rf _) c1064)
    refine z_goto C (tgt := 2808) dL_law_1069 (by decide) ?_
    refine z_iinc (v := nI (5 * (jx + 1))) (lv' := [(4, .int (nI (5 * (jx + 1)))), (6, .int xr), (5, .int xk), (0, .ref b), (1, .ref x), (2, .ref m), (3, .ref ou)]) C dL_law_2808 2 rfl (j_inc5 jx) (by decide) rfl ?_
    refine z_goto C (tgt := 27) dL_law_2811 (by decide) ?_
    refine z_fewer [0, 3, 4, 5, 6] rfl ?_
    refine z_widen (k' := kq + 4000) (n' := nq + 60000) (by omega) (by omega) ?_
    exact kk _ _ _ _ hI2 (so_mark hok)
set_option maxRecDepth 20000 in
theorem lc_back {X : zX} (C : z_C X cL_law RL 7 room_1) (h_st : (z_l X).stackTraces = false) {b L : Nat} {xs : Nat → Int32} (hX : va_X b L xs (z_s X) (z_s X).heap) (hbl : b < (z_s X).heap.size) (hbA : ¬ z_F X b) {jx : Nat} {a1 a2 a3 a4 : Int32} (hs1 : vp_in (nI (5 * jx) + 1) L ∧ xs (nI (5 * jx) + 1).toNatClampNeg = a1) (hs2 : vp_in (nI (5 * jx) + 2) L ∧ xs (nI (5 * jx) + 2).toNatClampNeg = a2) (hs3 : vp_in (nI (5 * jx) + 3) L ∧ xs (nI (5 * jx) + 3).toNatClampNeg = a3) (hs4 : vp_in (nI (5 * jx) + 4) L ∧ xs (nI (5 * jx) + 4).toNatClampNeg = a4) {u : sS} {x pa sp ln rf sb m pn td ou : Nat} {th : Int32} {on : Int64} {Mw : zM} (hI : s_LX (z_G X) x pa sp ln rf sb m pn td ou u u th on Mw) (hok : s_ok jx u) (hj : jx < 64) {kq nq : Nat} (hkq : kq + 4000 ≤ 600128) (hnq : nq + 60000 ≤ 7301098) (kk : ∀ v th on Mz, s_LX (z_G X) x pa sp ln rf sb m pn td ou v v th on Mz → s_ok (jx + 1) v → z_W X Mz (kq + 4000) (nq + 60000) 27 [(4, .int (nI (5 * (jx + 1)))), (0, .ref b), (1, .ref x), (2, .ref m), (3, .ref ou)] []) : z_W X Mw kq nq 1072 [(4, .int (nI (5 * jx))), (0, .ref b), (1, .ref x), (2, .ref m), (3, .ref ou)] [] := by
  refine z_aload_n C dL_law_1072 rfl 2 rfl ?_
  refine z_aload_n C dL_law_1073 rfl 1 rfl ?_
  refine z_iload C dL_law_1074 0 rfl ?_
  refine z_iconst C (v := 1) dL_law_1076 (by decide) ?_
  refine z_iadd C dL_law_1077 ?_
  refine z_sld C hX hbl hbA hs1.1 hs1.2 dL_law_1078 ?_
  refine z_aload_n C dL_law_1079 rfl 4 rfl ?_
  refine z_callHi (rest := []) (k' := kq + 8) (n' := nq + 48) C (s_LX_P hI (fun hC9 hd9 ho9 => w_back (z_l X) h_st hC9 hd9 ho9 hok a1)) (ch_back C ⟨Nat.le_of_ble_eq_true rfl, Nat.le_of_ble_eq_true rfl⟩) rfl rfl (Nat.le_of_ble_eq_true rfl) rfl rfl (by show _ ≤ 600128; omega) (by show _ ≤ 7301098; omega) dL_law_1080 (fun xk M1 hq => ?_)
  obtain ⟨hk1, on1, hI1, ho1⟩ := hq
  refine z_istore (lv' := [(5, .int xk), (4, .int (nI (5 * jx))), (0, .ref b), (1, .ref x), (2, .ref m), (3, .ref ou)]) C dL_law_1083 (by decide) rfl ?_
  refine z_aload_n C dL_law_1085 rfl 4 rfl ?_
  refine z_aload_n C dL_law_1086 rfl 2 rfl ?_
  refine z_iload C dL_law_1087 1 rfl ?_
  refine z_iconst C (v := 1) dL_law_1089 (by decide) ?_
  refine z_iadd C dL_law_1090 ?_
  refine z_sld C hX hbl hbA hs1.1 hs1.2 dL_law_1091 ?_
  obtain ⟨tp9, hm9⟩ := s_LX_m hI1
  refine z_callVi (rest := []) (k' := kq + 8) (n' := nq + 48) C (s_LX_R hI1 (fun hR9 => a_X5_back (z_l X) hR9 hok (by omega) a1)) (cs_L_192 C ⟨Nat.le_of_ble_eq_true rfl, Nat.le_of_ble_eq_true rfl⟩) hm9 rfl rfl rfl rfl (Nat.le_of_ble_eq_true rfl) rfl rfl (by show _ ≤ 600128; omega) (by show _ ≤ 7301098; omega) dL_law_1092 (fun xr M2 hq => ?_)
  obtain ⟨hI2, hr2⟩ := hq
  obtain ⟨tp8, hm8⟩ := s_LX_m hI2
  obtain ⟨os8, hou8⟩ := s_LX_ou hI2
  refine z_istore (lv' := [(6, .int xr), (5, .int xk), (4, .int (nI (5 * jx))), (0, .ref b), (1, .ref x), (2, .ref m), (3, .ref ou)]) C dL_law_1095 (by decide) rfl ?_
  refine z_aload_n C dL_law_1097 rfl 5 rfl ?_
  refine z_callVi (rest := []) (k' := kq + 8) (n' := nq + 48) C (c_X5_thrown (z_l X) (z_G X) hm8) (cs_L_150 C ⟨Nat.le_of_ble_eq_true rfl, Nat.le_of_ble_eq_true rfl⟩) hm8 rfl rfl rfl rfl (Nat.le_of_ble_eq_true rfl) rfl rfl (by show _ ≤ 600128; omega) (by show _ ≤ 7301098; omega) dL_law_1098 (fun x3 M3 hq => ?_)
  obtain ⟨e3, rfl⟩ := hq
  rw [e3]
  refine z_iload C dL_law_1101 1 rfl ?_
  refine z_icmp_eq C (tgt := 1108) dL_law_1103 (by decide) (fun _ => ?_) (fun c1103 => absurd hk1.symm c1103)
  refine z_iload C dL_law_1108 1 rfl ?_
  refine z_if_ne C (tgt := 1126) dL_law_1110 (by decide) (fun c1110 => ?_) (fun c1110 => ?_)
  · refine z_goto C (tgt := 2808) dL_law_1126 (by decide) ?_
    refine z_iinc (v := nI (5 * (jx + 1))) (lv' := [(4, .int (nI (5 * (jx + 1)))), (6, .int xr), (5, .int xk), (0, .ref b), (1, .ref x), (2, .ref m), (3, .ref ou)]) C dL_law_2808 2 rfl (j_inc5 jx) (by decide) rfl ?_
    refine z_goto C (tgt := 27) dL_law_2811 (by decide) ?_
    refine z_fewer [0, 3, 4, 5, 6] rfl ?_
    refine z_widen (k' := kq + 4000) (n' := nq + 60000) (by omega) (by omega) ?_
    exact kk _ _ _ _ hI2 (so_back hok)
  · refine z_aload_n C dL_law_1113 rfl 6 rfl ?_
    refine gf_L_13 C hou8 dL_law_1114 ?_
    refine z_iload C dL_law_1117 0 rfl ?_
    refine z_i2l C dL_law_1119 ?_
    refine z_lcmp C dL_law_1120 ?_
    refine z_if_eq C (tgt := 1126) dL_law_1121 (by decide) (fun _ => ?_) (fun c1121 => absurd (by rw [ho1 (hk1.symm.trans c1110), hr2 (hk1.symm.trans c1110)]; exact lg_cmp_rf _) c1121)
    refine z_goto C (tgt := 2808) dL_law_1126 (by decide) ?_
    refine z_iinc (v := nI (5 * (jx + 1))) (lv' := [(4, .int (nI (5 * (jx + 1)))), (6, .int xr), (5, .int xk), (0, .ref b), (1, .ref x), (2, .ref m), (3, .ref ou)]) C dL_law_2808 2 rfl (j_inc5 jx) (by decide) rfl ?_
    refine z_goto C (tgt := 27) dL_law_2811 (by decide) ?_
    refine z_fewer [0, 3, 4, 5, 6] rfl ?_
    refine z_widen (k' := kq + 4000) (n' := nq + 60000) (by omega) (by omega) ?_
    exact kk _ _ _ _ hI2 (so_back hok)
set_option maxRecDepth 20000 in
theorem lc_clear {X : zX} (C : z_C X cL_law RL 7 room_1) (h_st : (z_l X).stackTraces = false) {b L : Nat} {xs : Nat → Int32} (hX : va_X b L xs (z_s X) (z_s X).heap) (hbl : b < (z_s X).heap.size) (hbA : ¬ z_F X b) {jx : Nat} {a1 a2 a3 a4 : Int32} (hs1 : vp_in (nI (5 * jx) + 1) L ∧ xs (nI (5 * jx) + 1).toNatClampNeg = a1) (hs2 : vp_in (nI (5 * jx) + 2) L ∧ xs (nI (5 * jx) + 2).toNatClampNeg = a2) (hs3 : vp_in (nI (5 * jx) + 3) L ∧ xs (nI (5 * jx) + 3).toNatClampNeg = a3) (hs4 : vp_in (nI (5 * jx) + 4) L ∧ xs (nI (5 * jx) + 4).toNatClampNeg = a4) {u : sS} {x pa sp ln rf sb m pn td ou : Nat} {th : Int32} {on : Int64} {Mw : zM} (hI : s_LX (z_G X) x pa sp ln rf sb m pn td ou u u th on Mw) (hok : s_ok jx u) (hj : jx < 64) {kq nq : Nat} (hkq : kq + 4000 ≤ 600128) (hnq : nq + 60000 ≤ 7301098) (kk : ∀ v th on Mz, s_LX (z_G X) x pa sp ln rf sb m pn td ou v v th on Mz → s_ok (jx + 1) v → z_W X Mz (kq + 4000) (nq + 60000) 27 [(4, .int (nI (5 * (jx + 1)))), (0, .ref b), (1, .ref x), (2, .ref m), (3, .ref ou)] []) : z_W X Mw kq nq 1129 [(4, .int (nI (5 * jx))), (0, .ref b), (1, .ref x), (2, .ref m), (3, .ref ou)] [] := by
  refine z_aload_n C dL_law_1129 rfl 2 rfl ?_
  refine z_aload_n C dL_law_1130 rfl 1 rfl ?_
  refine z_iload C dL_law_1131 0 rfl ?_
  refine z_iconst C (v := 1) dL_law_1133 (by decide) ?_
  refine z_iadd C dL_law_1134 ?_
  refine z_sld C hX hbl hbA hs1.1 hs1.2 dL_law_1135 ?_
  refine z_aload_n C dL_law_1136 rfl 4 rfl ?_
  refine z_callHi (rest := []) (k' := kq + 8) (n' := nq + 48) C (s_LX_P hI (fun hC9 hd9 ho9 => w_clear (z_l X) h_st hC9 hd9 ho9 hok a1)) (ch_clear C ⟨Nat.le_of_ble_eq_true rfl, Nat.le_of_ble_eq_true rfl⟩) rfl rfl (Nat.le_of_ble_eq_true rfl) rfl rfl (by show _ ≤ 600128; omega) (by show _ ≤ 7301098; omega) dL_law_1137 (fun xk M1 hq => ?_)
  obtain ⟨hk1, on1, hI1, ho1⟩ := hq
  refine z_istore (lv' := [(5, .int xk), (4, .int (nI (5 * jx))), (0, .ref b), (1, .ref x), (2, .ref m), (3, .ref ou)]) C dL_law_1140 (by decide) rfl ?_
  refine z_aload_n C dL_law_1142 rfl 4 rfl ?_
  refine z_aload_n C dL_law_1143 rfl 2 rfl ?_
  refine z_iload C dL_law_1144 1 rfl ?_
  refine z_iconst C (v := 1) dL_law_1146 (by decide) ?_
  refine z_iadd C dL_law_1147 ?_
  refine z_sld C hX hbl hbA hs1.1 hs1.2 dL_law_1148 ?_
  obtain ⟨tp9, hm9⟩ := s_LX_m hI1
  refine z_callVi (rest := []) (k' := kq + 8) (n' := nq + 48) C (s_LX_R hI1 (fun hR9 => a_X5_clear (z_l X) hR9 hok (by omega) a1)) (cs_L_195 C ⟨Nat.le_of_ble_eq_true rfl, Nat.le_of_ble_eq_true rfl⟩) hm9 rfl rfl rfl rfl (Nat.le_of_ble_eq_true rfl) rfl rfl (by show _ ≤ 600128; omega) (by show _ ≤ 7301098; omega) dL_law_1149 (fun xr M2 hq => ?_)
  obtain ⟨hI2, hr2⟩ := hq
  obtain ⟨tp8, hm8⟩ := s_LX_m hI2
  obtain ⟨os8, hou8⟩ := s_LX_ou hI2
  refine z_istore (lv' := [(6, .int xr), (5, .int xk), (4, .int (nI (5 * jx))), (0, .ref b), (1, .ref x), (2, .ref m), (3, .ref ou)]) C dL_law_1152 (by decide) rfl ?_
  refine z_aload_n C dL_law_1154 rfl 5 rfl ?_
  refine z_callVi (rest := []) (k' := kq + 8) (n' := nq + 48) C (c_X5_thrown (z_l X) (z_G X) hm8) (cs_L_150 C ⟨Nat.le_of_ble_eq_true rfl, Nat.le_of_ble_eq_true rfl⟩) hm8 rfl rfl rfl rfl (Nat.le_of_ble_eq_true rfl) rfl rfl (by show _ ≤ 600128; omega) (by show _ ≤ 7301098; omega) dL_law_1155 (fun x3 M3 hq => ?_)
  obtain ⟨e3, rfl⟩ := hq
  rw [e3]
  refine z_iload C dL_law_1158 1 rfl ?_
  refine z_icmp_eq C (tgt := 1165) dL_law_1160 (by decide) (fun _ => ?_) (fun c1160 => absurd hk1.symm c1160)
  refine z_iload C dL_law_1165 1 rfl ?_
  refine z_if_ne C (tgt := 1183) dL_law_1167 (by decide) (fun c1167 => ?_) (fun c1167 => ?_)
  · refine z_goto C (tgt := 2808) dL_law_1183 (by decide) ?_
    refine z_iinc (v := nI (5 * (jx + 1))) (lv' := [(4, .int (nI (5 * (jx + 1)))), (6, .int xr), (5, .int xk), (0, .ref b), (1, .ref x), (2, .ref m), (3, .ref ou)]) C dL_law_2808 2 rfl (j_inc5 jx) (by decide) rfl ?_
    refine z_goto C (tgt := 27) dL_law_2811 (by decide) ?_
    refine z_fewer [0, 3, 4, 5, 6] rfl ?_
    refine z_widen (k' := kq + 4000) (n' := nq + 60000) (by omega) (by omega) ?_
    exact kk _ _ _ _ hI2 (so_clear hok)
  · refine z_aload_n C dL_law_1170 rfl 6 rfl ?_
    refine gf_L_13 C hou8 dL_law_1171 ?_
    refine z_iload C dL_law_1174 0 rfl ?_
    refine z_i2l C dL_law_1176 ?_
    refine z_lcmp C dL_law_1177 ?_
    refine z_if_eq C (tgt := 1183) dL_law_1178 (by decide) (fun _ => ?_) (fun c1178 => absurd (by rw [ho1 (hk1.symm.trans c1167), hr2 (hk1.symm.trans c1167)]; exact lg_cmp_rf _) c1178)
    refine z_goto C (tgt := 2808) dL_law_1183 (by decide) ?_
    refine z_iinc (v := nI (5 * (jx + 1))) (lv' := [(4, .int (nI (5 * (jx + 1)))), (6, .int xr), (5, .int xk), (0, .ref b), (1, .ref x), (2, .ref m), (3, .ref ou)]) C dL_law_2808 2 rfl (j_inc5 jx) (by decide) rfl ?_
    refine z_goto C (tgt := 27) dL_law_2811 (by decide) ?_
    refine z_fewer [0, 3, 4, 5, 6] rfl ?_
    refine z_widen (k' := kq + 4000) (n' := nq + 60000) (by omega) (by omega) ?_
    exact kk _ _ _ _ hI2 (so_clear hok)
set_option maxRecDepth 20000 in
theorem lc_flip {X : zX} (C : z_C X cL_law RL 7 room_1) (h_st : (z_l X).stackTraces = false) {b L : Nat} {xs : Nat → Int32} (hX : va_X b L xs (z_s X) (z_s X).heap) (hbl : b < (z_s X).heap.size) (hbA : ¬ z_F X b) {jx : Nat} {a1 a2 a3 a4 : Int32} (hs1 : vp_in (nI (5 * jx) + 1) L ∧ xs (nI (5 * jx) + 1).toNatClampNeg = a1) (hs2 : vp_in (nI (5 * jx) + 2) L ∧ xs (nI (5 * jx) + 2).toNatClampNeg = a2) (hs3 : vp_in (nI (5 * jx) + 3) L ∧ xs (nI (5 * jx) + 3).toNatClampNeg = a3) (hs4 : vp_in (nI (5 * jx) + 4) L ∧ xs (nI (5 * jx) + 4).toNatClampNeg = a4) {u : sS} {x pa sp ln rf sb m pn td ou : Nat} {th : Int32} {on : Int64} {Mw : zM} (hI : s_LX (z_G X) x pa sp ln rf sb m pn td ou u u th on Mw) (hok : s_ok jx u) (hj : jx < 64) {kq nq : Nat} (hkq : kq + 4000 ≤ 600128) (hnq : nq + 60000 ≤ 7301098) (kk : ∀ v th on Mz, s_LX (z_G X) x pa sp ln rf sb m pn td ou v v th on Mz → s_ok (jx + 1) v → z_W X Mz (kq + 4000) (nq + 60000) 27 [(4, .int (nI (5 * (jx + 1)))), (0, .ref b), (1, .ref x), (2, .ref m), (3, .ref ou)] []) : z_W X Mw kq nq 1186 [(4, .int (nI (5 * jx))), (0, .ref b), (1, .ref x), (2, .ref m), (3, .ref ou)] [] := by
  refine z_aload_n C dL_law_1186 rfl 2 rfl ?_
  refine z_aload_n C dL_law_1187 rfl 1 rfl ?_
  refine z_iload C dL_law_1188 0 rfl ?_
  refine z_iconst C (v := 1) dL_law_1190 (by decide) ?_
  refine z_iadd C dL_law_1191 ?_
  refine z_sld C hX hbl hbA hs1.1 hs1.2 dL_law_1192 ?_
  refine z_aload_n C dL_law_1193 rfl 4 rfl ?_
  refine z_callHi (rest := []) (k' := kq + 8) (n' := nq + 48) C (s_LX_P hI (fun hC9 hd9 ho9 => w_flip (z_l X) h_st hC9 hd9 ho9 hok a1)) (ch_flip C ⟨Nat.le_of_ble_eq_true rfl, Nat.le_of_ble_eq_true rfl⟩) rfl rfl (Nat.le_of_ble_eq_true rfl) rfl rfl (by show _ ≤ 600128; omega) (by show _ ≤ 7301098; omega) dL_law_1194 (fun xk M1 hq => ?_)
  obtain ⟨hk1, on1, hI1, ho1⟩ := hq
  refine z_istore (lv' := [(5, .int xk), (4, .int (nI (5 * jx))), (0, .ref b), (1, .ref x), (2, .ref m), (3, .ref ou)]) C dL_law_1197 (by decide) rfl ?_
  refine z_aload_n C dL_law_1199 rfl 4 rfl ?_
  refine z_aload_n C dL_law_1200 rfl 2 rfl ?_
  refine z_iload C dL_law_1201 1 rfl ?_
  refine z_iconst C (v := 1) dL_law_1203 (by decide) ?_
  refine z_iadd C dL_law_1204 ?_
  refine z_sld C hX hbl hbA hs1.1 hs1.2 dL_law_1205 ?_
  obtain ⟨tp9, hm9⟩ := s_LX_m hI1
  refine z_callVi (rest := []) (k' := kq + 8) (n' := nq + 48) C (s_LX_R hI1 (fun hR9 => a_X5_flip (z_l X) hR9 hok (by omega) a1)) (cs_L_198 C ⟨Nat.le_of_ble_eq_true rfl, Nat.le_of_ble_eq_true rfl⟩) hm9 rfl rfl rfl rfl (Nat.le_of_ble_eq_true rfl) rfl rfl (by show _ ≤ 600128; omega) (by show _ ≤ 7301098; omega) dL_law_1206 (fun xr M2 hq => ?_)
  obtain ⟨hI2, hr2⟩ := hq
  obtain ⟨tp8, hm8⟩ := s_LX_m hI2
  obtain ⟨os8, hou8⟩ := s_LX_ou hI2
  refine z_istore (lv' := [(6, .int xr), (5, .int xk), (4, .int (nI (5 * jx))), (0, .ref b), (1, .ref x), (2, .ref m), (3, .ref ou)]) C dL_law_1209 (by decide) rfl ?_
  refine z_aload_n C dL_law_1211 rfl 5 rfl ?_
  refine z_callVi (rest := []) (k' := kq + 8) (n' := nq + 48) C (c_X5_thrown (z_l X) (z_G X) hm8) (cs_L_150 C ⟨Nat.le_of_ble_eq_true rfl, Nat.le_of_ble_eq_true rfl⟩) hm8 rfl rfl rfl rfl (Nat.le_of_ble_eq_true rfl) rfl rfl (by show _ ≤ 600128; omega) (by show _ ≤ 7301098; omega) dL_law_1212 (fun x3 M3 hq => ?_)
  obtain ⟨e3, rfl⟩ := hq
  rw [e3]
  refine z_iload C dL_law_1215 1 rfl ?_
  refine z_icmp_eq C (tgt := 1222) dL_law_1217 (by decide) (fun _ => ?_) (fun c1217 => absurd hk1.symm c1217)
  refine z_iload C dL_law_1222 1 rfl ?_
  refine z_if_ne C (tgt := 1240) dL_law_1224 (by decide) (fun c1224 => ?_) (fun c1224 => ?_)
  · refine z_goto C (tgt := 2808) dL_law_1240 (by decide) ?_
    refine z_iinc (v := nI (5 * (jx + 1))) (lv' := [(4, .int (nI (5 * (jx + 1)))), (6, .int xr), (5, .int xk), (0, .ref b), (1, .ref x), (2, .ref m), (3, .ref ou)]) C dL_law_2808 2 rfl (j_inc5 jx) (by decide) rfl ?_
    refine z_goto C (tgt := 27) dL_law_2811 (by decide) ?_
    refine z_fewer [0, 3, 4, 5, 6] rfl ?_
    refine z_widen (k' := kq + 4000) (n' := nq + 60000) (by omega) (by omega) ?_
    exact kk _ _ _ _ hI2 (so_flip hok)
  · refine z_aload_n C dL_law_1227 rfl 6 rfl ?_
    refine gf_L_13 C hou8 dL_law_1228 ?_
    refine z_iload C dL_law_1231 0 rfl ?_
    refine z_i2l C dL_law_1233 ?_
    refine z_lcmp C dL_law_1234 ?_
    refine z_if_eq C (tgt := 1240) dL_law_1235 (by decide) (fun _ => ?_) (fun c1235 => absurd (by rw [ho1 (hk1.symm.trans c1224), hr2 (hk1.symm.trans c1224)]; exact lg_cmp_rf _) c1235)
    refine z_goto C (tgt := 2808) dL_law_1240 (by decide) ?_
    refine z_iinc (v := nI (5 * (jx + 1))) (lv' := [(4, .int (nI (5 * (jx + 1)))), (6, .int xr), (5, .int xk), (0, .ref b), (1, .ref x), (2, .ref m), (3, .ref ou)]) C dL_law_2808 2 rfl (j_inc5 jx) (by decide) rfl ?_
    refine z_goto C (tgt := 27) dL_law_2811 (by decide) ?_
    refine z_fewer [0, 3, 4, 5, 6] rfl ?_
    refine z_widen (k' := kq + 4000) (n' := nq + 60000) (by omega) (by omega) ?_
    exact kk _ _ _ _ hI2 (so_flip hok)
set_option maxRecDepth 20000 in
theorem lc_rewind {X : zX} (C : z_C X cL_law RL 7 room_1) (h_st : (z_l X).stackTraces = false) {b L : Nat} {xs : Nat → Int32} (hX : va_X b L xs (z_s X) (z_s X).heap) (hbl : b < (z_s X).heap.size) (hbA : ¬ z_F X b) {jx : Nat} {a1 a2 a3 a4 : Int32} (hs1 : vp_in (nI (5 * jx) + 1) L ∧ xs (nI (5 * jx) + 1).toNatClampNeg = a1) (hs2 : vp_in (nI (5 * jx) + 2) L ∧ xs (nI (5 * jx) + 2).toNatClampNeg = a2) (hs3 : vp_in (nI (5 * jx) + 3) L ∧ xs (nI (5 * jx) + 3).toNatClampNeg = a3) (hs4 : vp_in (nI (5 * jx) + 4) L ∧ xs (nI (5 * jx) + 4).toNatClampNeg = a4) {u : sS} {x pa sp ln rf sb m pn td ou : Nat} {th : Int32} {on : Int64} {Mw : zM} (hI : s_LX (z_G X) x pa sp ln rf sb m pn td ou u u th on Mw) (hok : s_ok jx u) (hj : jx < 64) {kq nq : Nat} (hkq : kq + 4000 ≤ 600128) (hnq : nq + 60000 ≤ 7301098) (kk : ∀ v th on Mz, s_LX (z_G X) x pa sp ln rf sb m pn td ou v v th on Mz → s_ok (jx + 1) v → z_W X Mz (kq + 4000) (nq + 60000) 27 [(4, .int (nI (5 * (jx + 1)))), (0, .ref b), (1, .ref x), (2, .ref m), (3, .ref ou)] []) : z_W X Mw kq nq 1243 [(4, .int (nI (5 * jx))), (0, .ref b), (1, .ref x), (2, .ref m), (3, .ref ou)] [] := by
  refine z_aload_n C dL_law_1243 rfl 2 rfl ?_
  refine z_aload_n C dL_law_1244 rfl 1 rfl ?_
  refine z_iload C dL_law_1245 0 rfl ?_
  refine z_iconst C (v := 1) dL_law_1247 (by decide) ?_
  refine z_iadd C dL_law_1248 ?_
  refine z_sld C hX hbl hbA hs1.1 hs1.2 dL_law_1249 ?_
  refine z_aload_n C dL_law_1250 rfl 4 rfl ?_
  refine z_callHi (rest := []) (k' := kq + 8) (n' := nq + 48) C (s_LX_P hI (fun hC9 hd9 ho9 => w_rewind (z_l X) h_st hC9 hd9 ho9 hok a1)) (ch_rewind C ⟨Nat.le_of_ble_eq_true rfl, Nat.le_of_ble_eq_true rfl⟩) rfl rfl (Nat.le_of_ble_eq_true rfl) rfl rfl (by show _ ≤ 600128; omega) (by show _ ≤ 7301098; omega) dL_law_1251 (fun xk M1 hq => ?_)
  obtain ⟨hk1, on1, hI1, ho1⟩ := hq
  refine z_istore (lv' := [(5, .int xk), (4, .int (nI (5 * jx))), (0, .ref b), (1, .ref x), (2, .ref m), (3, .ref ou)]) C dL_law_1254 (by decide) rfl ?_
  refine z_aload_n C dL_law_1256 rfl 4 rfl ?_
  refine z_aload_n C dL_law_1257 rfl 2 rfl ?_
  refine z_iload C dL_law_1258 1 rfl ?_
  refine z_iconst C (v := 1) dL_law_1260 (by decide) ?_
  refine z_iadd C dL_law_1261 ?_
  refine z_sld C hX hbl hbA hs1.1 hs1.2 dL_law_1262 ?_
  obtain ⟨tp9, hm9⟩ := s_LX_m hI1
  refine z_callVi (rest := []) (k' := kq + 8) (n' := nq + 48) C (s_LX_R hI1 (fun hR9 => a_X5_rewind (z_l X) hR9 hok (by omega) a1)) (cs_L_201 C ⟨Nat.le_of_ble_eq_true rfl, Nat.le_of_ble_eq_true rfl⟩) hm9 rfl rfl rfl rfl (Nat.le_of_ble_eq_true rfl) rfl rfl (by show _ ≤ 600128; omega) (by show _ ≤ 7301098; omega) dL_law_1263 (fun xr M2 hq => ?_)
  obtain ⟨hI2, hr2⟩ := hq
  obtain ⟨tp8, hm8⟩ := s_LX_m hI2
  obtain ⟨os8, hou8⟩ := s_LX_ou hI2
  refine z_istore (lv' := [(6, .int xr), (5, .int xk), (4, .int (nI (5 * jx))), (0, .ref b), (1, .ref x), (2, .ref m), (3, .ref ou)]) C dL_law_1266 (by decide) rfl ?_
  refine z_aload_n C dL_law_1268 rfl 5 rfl ?_
  refine z_callVi (rest := []) (k' := kq + 8) (n' := nq + 48) C (c_X5_thrown (z_l X) (z_G X) hm8) (cs_L_150 C ⟨Nat.le_of_ble_eq_true rfl, Nat.le_of_ble_eq_true rfl⟩) hm8 rfl rfl rfl rfl (Nat.le_of_ble_eq_true rfl) rfl rfl (by show _ ≤ 600128; omega) (by show _ ≤ 7301098; omega) dL_law_1269 (fun x3 M3 hq => ?_)
  obtain ⟨e3, rfl⟩ := hq
  rw [e3]
  refine z_iload C dL_law_1272 1 rfl ?_
  refine z_icmp_eq C (tgt := 1279) dL_law_1274 (by decide) (fun _ => ?_) (fun c1274 => absurd hk1.symm c1274)
  refine z_iload C dL_law_1279 1 rfl ?_
  refine z_if_ne C (tgt := 1297) dL_law_1281 (by decide) (fun c1281 => ?_) (fun c1281 => ?_)
  · refine z_goto C (tgt := 2808) dL_law_1297 (by decide) ?_
    refine z_iinc (v := nI (5 * (jx + 1))) (lv' := [(4, .int (nI (5 * (jx + 1)))), (6, .int xr), (5, .int xk), (0, .ref b), (1, .ref x), (2, .ref m), (3, .ref ou)]) C dL_law_2808 2 rfl (j_inc5 jx) (by decide) rfl ?_
    refine z_goto C (tgt := 27) dL_law_2811 (by decide) ?_
    refine z_fewer [0, 3, 4, 5, 6] rfl ?_
    refine z_widen (k' := kq + 4000) (n' := nq + 60000) (by omega) (by omega) ?_
    exact kk _ _ _ _ hI2 (so_rewind hok)
  · refine z_aload_n C dL_law_1284 rfl 6 rfl ?_
    refine gf_L_13 C hou8 dL_law_1285 ?_
    refine z_iload C dL_law_1288 0 rfl ?_
    refine z_i2l C dL_law_1290 ?_
    refine z_lcmp C dL_law_1291 ?_
    refine z_if_eq C (tgt := 1297) dL_law_1292 (by decide) (fun _ => ?_) (fun c1292 => absurd (by rw [ho1 (hk1.symm.trans c1281), hr2 (hk1.symm.trans c1281)]; exact lg_cmp_rf _) c1292)
    refine z_goto C (tgt := 2808) dL_law_1297 (by decide) ?_
    refine z_iinc (v := nI (5 * (jx + 1))) (lv' := [(4, .int (nI (5 * (jx + 1)))), (6, .int xr), (5, .int xk), (0, .ref b), (1, .ref x), (2, .ref m), (3, .ref ou)]) C dL_law_2808 2 rfl (j_inc5 jx) (by decide) rfl ?_
    refine z_goto C (tgt := 27) dL_law_2811 (by decide) ?_
    refine z_fewer [0, 3, 4, 5, 6] rfl ?_
    refine z_widen (k' := kq + 4000) (n' := nq + 60000) (by omega) (by omega) ?_
    exact kk _ _ _ _ hI2 (so_rewind hok)
set_option maxRecDepth 20000 in
theorem lc_put {X : zX} (C : z_C X cL_law RL 7 room_1) (h_st : (z_l X).stackTraces = false) {b L : Nat} {xs : Nat → Int32} (hX : va_X b L xs (z_s X) (z_s X).heap) (hbl : b < (z_s X).heap.size) (hbA : ¬ z_F X b) {jx : Nat} {a1 a2 a3 a4 : Int32} (hs1 : vp_in (nI (5 * jx) + 1) L ∧ xs (nI (5 * jx) + 1).toNatClampNeg = a1) (hs2 : vp_in (nI (5 * jx) + 2) L ∧ xs (nI (5 * jx) + 2).toNatClampNeg = a2) (hs3 : vp_in (nI (5 * jx) + 3) L ∧ xs (nI (5 * jx) + 3).toNatClampNeg = a3) (hs4 : vp_in (nI (5 * jx) + 4) L ∧ xs (nI (5 * jx) + 4).toNatClampNeg = a4) {u : sS} {x pa sp ln rf sb m pn td ou : Nat} {th : Int32} {on : Int64} {Mw : zM} (hI : s_LX (z_G X) x pa sp ln rf sb m pn td ou u u th on Mw) (hok : s_ok jx u) (hj : jx < 64) {kq nq : Nat} (hkq : kq + 4000 ≤ 600128) (hnq : nq + 60000 ≤ 7301098) (kk : ∀ v th on Mz, s_LX (z_G X) x pa sp ln rf sb m pn td ou v v th on Mz → s_ok (jx + 1) v → z_W X Mz (kq + 4000) (nq + 60000) 27 [(4, .int (nI (5 * (jx + 1)))), (0, .ref b), (1, .ref x), (2, .ref m), (3, .ref ou)] []) : z_W X Mw kq nq 1300 [(4, .int (nI (5 * jx))), (0, .ref b), (1, .ref x), (2, .ref m), (3, .ref ou)] [] := by
  refine z_aload_n C dL_law_1300 rfl 2 rfl ?_
  refine z_aload_n C dL_law_1301 rfl 1 rfl ?_
  refine z_iload C dL_law_1302 0 rfl ?_
  refine z_iconst C (v := 1) dL_law_1304 (by decide) ?_
  refine z_iadd C dL_law_1305 ?_
  refine z_sld C hX hbl hbA hs1.1 hs1.2 dL_law_1306 ?_
  refine z_aload_n C dL_law_1307 rfl 1 rfl ?_
  refine z_iload C dL_law_1308 0 rfl ?_
  refine z_iconst C (v := 2) dL_law_1310 (by decide) ?_
  refine z_iadd C dL_law_1311 ?_
  refine z_sld C hX hbl hbA hs2.1 hs2.2 dL_law_1312 ?_
  refine z_aload_n C dL_law_1313 rfl 4 rfl ?_
  refine z_callHi (rest := []) (k' := kq + 8) (n' := nq + 48) C (s_LX_P hI (fun hC9 hd9 ho9 => w_put (z_l X) h_st hC9 hd9 ho9 hok a1 a2)) (ch_put C ⟨Nat.le_of_ble_eq_true rfl, Nat.le_of_ble_eq_true rfl⟩) rfl rfl (Nat.le_of_ble_eq_true rfl) rfl rfl (by show _ ≤ 600128; omega) (by show _ ≤ 7301098; omega) dL_law_1314 (fun xk M1 hq => ?_)
  obtain ⟨hk1, on1, hI1, ho1⟩ := hq
  refine z_istore (lv' := [(5, .int xk), (4, .int (nI (5 * jx))), (0, .ref b), (1, .ref x), (2, .ref m), (3, .ref ou)]) C dL_law_1317 (by decide) rfl ?_
  refine z_aload_n C dL_law_1319 rfl 4 rfl ?_
  refine z_aload_n C dL_law_1320 rfl 2 rfl ?_
  refine z_iload C dL_law_1321 1 rfl ?_
  refine z_iconst C (v := 1) dL_law_1323 (by decide) ?_
  refine z_iadd C dL_law_1324 ?_
  refine z_sld C hX hbl hbA hs1.1 hs1.2 dL_law_1325 ?_
  refine z_aload_n C dL_law_1326 rfl 2 rfl ?_
  refine z_iload C dL_law_1327 1 rfl ?_
  refine z_iconst C (v := 2) dL_law_1329 (by decide) ?_
  refine z_iadd C dL_law_1330 ?_
  refine z_sld C hX hbl hbA hs2.1 hs2.2 dL_law_1331 ?_
  obtain ⟨tp9, hm9⟩ := s_LX_m hI1
  refine z_callVi (rest := []) (k' := kq + 8) (n' := nq + 48) C (s_LX_R hI1 (fun hR9 => a_X5_put (z_l X) hR9 hok (by omega) a1 a2)) (cs_L_204 C ⟨Nat.le_of_ble_eq_true rfl, Nat.le_of_ble_eq_true rfl⟩) hm9 rfl rfl rfl rfl (Nat.le_of_ble_eq_true rfl) rfl rfl (by show _ ≤ 600128; omega) (by show _ ≤ 7301098; omega) dL_law_1332 (fun xr M2 hq => ?_)
  obtain ⟨hI2, hr2⟩ := hq
  obtain ⟨tp8, hm8⟩ := s_LX_m hI2
  obtain ⟨os8, hou8⟩ := s_LX_ou hI2
  refine z_istore (lv' := [(6, .int xr), (5, .int xk), (4, .int (nI (5 * jx))), (0, .ref b), (1, .ref x), (2, .ref m), (3, .ref ou)]) C dL_law_1335 (by decide) rfl ?_
  refine z_aload_n C dL_law_1337 rfl 5 rfl ?_
  refine z_callVi (rest := []) (k' := kq + 8) (n' := nq + 48) C (c_X5_thrown (z_l X) (z_G X) hm8) (cs_L_150 C ⟨Nat.le_of_ble_eq_true rfl, Nat.le_of_ble_eq_true rfl⟩) hm8 rfl rfl rfl rfl (Nat.le_of_ble_eq_true rfl) rfl rfl (by show _ ≤ 600128; omega) (by show _ ≤ 7301098; omega) dL_law_1338 (fun x3 M3 hq => ?_)
  obtain ⟨e3, rfl⟩ := hq
  rw [e3]
  refine z_iload C dL_law_1341 1 rfl ?_
  refine z_icmp_eq C (tgt := 1348) dL_law_1343 (by decide) (fun _ => ?_) (fun c1343 => absurd hk1.symm c1343)
  refine z_iload C dL_law_1348 1 rfl ?_
  refine z_if_ne C (tgt := 1366) dL_law_1350 (by decide) (fun c1350 => ?_) (fun c1350 => ?_)
  · refine z_goto C (tgt := 2808) dL_law_1366 (by decide) ?_
    refine z_iinc (v := nI (5 * (jx + 1))) (lv' := [(4, .int (nI (5 * (jx + 1)))), (6, .int xr), (5, .int xk), (0, .ref b), (1, .ref x), (2, .ref m), (3, .ref ou)]) C dL_law_2808 2 rfl (j_inc5 jx) (by decide) rfl ?_
    refine z_goto C (tgt := 27) dL_law_2811 (by decide) ?_
    refine z_fewer [0, 3, 4, 5, 6] rfl ?_
    refine z_widen (k' := kq + 4000) (n' := nq + 60000) (by omega) (by omega) ?_
    exact kk _ _ _ _ hI2 (so_put hok)
  · refine z_aload_n C dL_law_1353 rfl 6 rfl ?_
    refine gf_L_13 C hou8 dL_law_1354 ?_
    refine z_iload C dL_law_1357 0 rfl ?_
    refine z_i2l C dL_law_1359 ?_
    refine z_lcmp C dL_law_1360 ?_
    refine z_if_eq C (tgt := 1366) dL_law_1361 (by decide) (fun _ => ?_) (fun c1361 => absurd (by rw [ho1 (hk1.symm.trans c1350), hr2 (hk1.symm.trans c1350)]; exact lg_cmp_rf _) c1361)
    refine z_goto C (tgt := 2808) dL_law_1366 (by decide) ?_
    refine z_iinc (v := nI (5 * (jx + 1))) (lv' := [(4, .int (nI (5 * (jx + 1)))), (6, .int xr), (5, .int xk), (0, .ref b), (1, .ref x), (2, .ref m), (3, .ref ou)]) C dL_law_2808 2 rfl (j_inc5 jx) (by decide) rfl ?_
    refine z_goto C (tgt := 27) dL_law_2811 (by decide) ?_
    refine z_fewer [0, 3, 4, 5, 6] rfl ?_
    refine z_widen (k' := kq + 4000) (n' := nq + 60000) (by omega) (by omega) ?_
    exact kk _ _ _ _ hI2 (so_put hok)
set_option maxRecDepth 20000 in
theorem lc_putAt {X : zX} (C : z_C X cL_law RL 7 room_1) (h_st : (z_l X).stackTraces = false) {b L : Nat} {xs : Nat → Int32} (hX : va_X b L xs (z_s X) (z_s X).heap) (hbl : b < (z_s X).heap.size) (hbA : ¬ z_F X b) {jx : Nat} {a1 a2 a3 a4 : Int32} (hs1 : vp_in (nI (5 * jx) + 1) L ∧ xs (nI (5 * jx) + 1).toNatClampNeg = a1) (hs2 : vp_in (nI (5 * jx) + 2) L ∧ xs (nI (5 * jx) + 2).toNatClampNeg = a2) (hs3 : vp_in (nI (5 * jx) + 3) L ∧ xs (nI (5 * jx) + 3).toNatClampNeg = a3) (hs4 : vp_in (nI (5 * jx) + 4) L ∧ xs (nI (5 * jx) + 4).toNatClampNeg = a4) {u : sS} {x pa sp ln rf sb m pn td ou : Nat} {th : Int32} {on : Int64} {Mw : zM} (hI : s_LX (z_G X) x pa sp ln rf sb m pn td ou u u th on Mw) (hok : s_ok jx u) (hj : jx < 64) {kq nq : Nat} (hkq : kq + 4000 ≤ 600128) (hnq : nq + 60000 ≤ 7301098) (kk : ∀ v th on Mz, s_LX (z_G X) x pa sp ln rf sb m pn td ou v v th on Mz → s_ok (jx + 1) v → z_W X Mz (kq + 4000) (nq + 60000) 27 [(4, .int (nI (5 * (jx + 1)))), (0, .ref b), (1, .ref x), (2, .ref m), (3, .ref ou)] []) : z_W X Mw kq nq 1369 [(4, .int (nI (5 * jx))), (0, .ref b), (1, .ref x), (2, .ref m), (3, .ref ou)] [] := by
  refine z_aload_n C dL_law_1369 rfl 2 rfl ?_
  refine z_aload_n C dL_law_1370 rfl 1 rfl ?_
  refine z_iload C dL_law_1371 0 rfl ?_
  refine z_iconst C (v := 1) dL_law_1373 (by decide) ?_
  refine z_iadd C dL_law_1374 ?_
  refine z_sld C hX hbl hbA hs1.1 hs1.2 dL_law_1375 ?_
  refine z_aload_n C dL_law_1376 rfl 1 rfl ?_
  refine z_iload C dL_law_1377 0 rfl ?_
  refine z_iconst C (v := 2) dL_law_1379 (by decide) ?_
  refine z_iadd C dL_law_1380 ?_
  refine z_sld C hX hbl hbA hs2.1 hs2.2 dL_law_1381 ?_
  refine z_aload_n C dL_law_1382 rfl 1 rfl ?_
  refine z_iload C dL_law_1383 0 rfl ?_
  refine z_iconst C (v := 3) dL_law_1385 (by decide) ?_
  refine z_iadd C dL_law_1386 ?_
  refine z_sld C hX hbl hbA hs3.1 hs3.2 dL_law_1387 ?_
  refine z_aload_n C dL_law_1388 rfl 4 rfl ?_
  refine z_callHi (rest := []) (k' := kq + 8) (n' := nq + 48) C (s_LX_P hI (fun hC9 hd9 ho9 => w_putAt (z_l X) h_st hC9 hd9 ho9 hok a1 a2 a3)) (ch_putAt C ⟨Nat.le_of_ble_eq_true rfl, Nat.le_of_ble_eq_true rfl⟩) rfl rfl (Nat.le_of_ble_eq_true rfl) rfl rfl (by show _ ≤ 600128; omega) (by show _ ≤ 7301098; omega) dL_law_1389 (fun xk M1 hq => ?_)
  obtain ⟨hk1, on1, hI1, ho1⟩ := hq
  refine z_istore (lv' := [(5, .int xk), (4, .int (nI (5 * jx))), (0, .ref b), (1, .ref x), (2, .ref m), (3, .ref ou)]) C dL_law_1392 (by decide) rfl ?_
  refine z_aload_n C dL_law_1394 rfl 4 rfl ?_
  refine z_aload_n C dL_law_1395 rfl 2 rfl ?_
  refine z_iload C dL_law_1396 1 rfl ?_
  refine z_iconst C (v := 1) dL_law_1398 (by decide) ?_
  refine z_iadd C dL_law_1399 ?_
  refine z_sld C hX hbl hbA hs1.1 hs1.2 dL_law_1400 ?_
  refine z_aload_n C dL_law_1401 rfl 2 rfl ?_
  refine z_iload C dL_law_1402 1 rfl ?_
  refine z_iconst C (v := 2) dL_law_1404 (by decide) ?_
  refine z_iadd C dL_law_1405 ?_
  refine z_sld C hX hbl hbA hs2.1 hs2.2 dL_law_1406 ?_
  refine z_aload_n C dL_law_1407 rfl 2 rfl ?_
  refine z_iload C dL_law_1408 1 rfl ?_
  refine z_iconst C (v := 3) dL_law_1410 (by decide) ?_
  refine z_iadd C dL_law_1411 ?_
  refine z_sld C hX hbl hbA hs3.1 hs3.2 dL_law_1412 ?_
  obtain ⟨tp9, hm9⟩ := s_LX_m hI1
  refine z_callVi (rest := []) (k' := kq + 8) (n' := nq + 48) C (s_LX_R hI1 (fun hR9 => a_X5_putAt (z_l X) hR9 hok (by omega) a1 a2 a3)) (cs_L_207 C ⟨Nat.le_of_ble_eq_true rfl, Nat.le_of_ble_eq_true rfl⟩) hm9 rfl rfl rfl rfl (Nat.le_of_ble_eq_true rfl) rfl rfl (by show _ ≤ 600128; omega) (by show _ ≤ 7301098; omega) dL_law_1413 (fun xr M2 hq => ?_)
  obtain ⟨hI2, hr2⟩ := hq
  obtain ⟨tp8, hm8⟩ := s_LX_m hI2
  obtain ⟨os8, hou8⟩ := s_LX_ou hI2
  refine z_istore (lv' := [(6, .int xr), (5, .int xk), (4, .int (nI (5 * jx))), (0, .ref b), (1, .ref x), (2, .ref m), (3, .ref ou)]) C dL_law_1416 (by decide) rfl ?_
  refine z_aload_n C dL_law_1418 rfl 5 rfl ?_
  refine z_callVi (rest := []) (k' := kq + 8) (n' := nq + 48) C (c_X5_thrown (z_l X) (z_G X) hm8) (cs_L_150 C ⟨Nat.le_of_ble_eq_true rfl, Nat.le_of_ble_eq_true rfl⟩) hm8 rfl rfl rfl rfl (Nat.le_of_ble_eq_true rfl) rfl rfl (by show _ ≤ 600128; omega) (by show _ ≤ 7301098; omega) dL_law_1419 (fun x3 M3 hq => ?_)
  obtain ⟨e3, rfl⟩ := hq
  rw [e3]
  refine z_iload C dL_law_1422 1 rfl ?_
  refine z_icmp_eq C (tgt := 1429) dL_law_1424 (by decide) (fun _ => ?_) (fun c1424 => absurd hk1.symm c1424)
  refine z_iload C dL_law_1429 1 rfl ?_
  refine z_if_ne C (tgt := 1447) dL_law_1431 (by decide) (fun c1431 => ?_) (fun c1431 => ?_)
  · refine z_goto C (tgt := 2808) dL_law_1447 (by decide) ?_
    refine z_iinc (v := nI (5 * (jx + 1))) (lv' := [(4, .int (nI (5 * (jx + 1)))), (6, .int xr), (5, .int xk), (0, .ref b), (1, .ref x), (2, .ref m), (3, .ref ou)]) C dL_law_2808 2 rfl (j_inc5 jx) (by decide) rfl ?_
    refine z_goto C (tgt := 27) dL_law_2811 (by decide) ?_
    refine z_fewer [0, 3, 4, 5, 6] rfl ?_
    refine z_widen (k' := kq + 4000) (n' := nq + 60000) (by omega) (by omega) ?_
    exact kk _ _ _ _ hI2 (so_putAt hok)
  · refine z_aload_n C dL_law_1434 rfl 6 rfl ?_
    refine gf_L_13 C hou8 dL_law_1435 ?_
    refine z_iload C dL_law_1438 0 rfl ?_
    refine z_i2l C dL_law_1440 ?_
    refine z_lcmp C dL_law_1441 ?_
    refine z_if_eq C (tgt := 1447) dL_law_1442 (by decide) (fun _ => ?_) (fun c1442 => absurd (by rw [ho1 (hk1.symm.trans c1431), hr2 (hk1.symm.trans c1431)]; exact lg_cmp_rf _) c1442)
    refine z_goto C (tgt := 2808) dL_law_1447 (by decide) ?_
    refine z_iinc (v := nI (5 * (jx + 1))) (lv' := [(4, .int (nI (5 * (jx + 1)))), (6, .int xr), (5, .int xk), (0, .ref b), (1, .ref x), (2, .ref m), (3, .ref ou)]) C dL_law_2808 2 rfl (j_inc5 jx) (by decide) rfl ?_
    refine z_goto C (tgt := 27) dL_law_2811 (by decide) ?_
    refine z_fewer [0, 3, 4, 5, 6] rfl ?_
    refine z_widen (k' := kq + 4000) (n' := nq + 60000) (by omega) (by omega) ?_
    exact kk _ _ _ _ hI2 (so_putAt hok)
set_option maxRecDepth 20000 in
theorem lc_bring {X : zX} (C : z_C X cL_law RL 7 room_1) (h_st : (z_l X).stackTraces = false) {b L : Nat} {xs : Nat → Int32} (hX : va_X b L xs (z_s X) (z_s X).heap) (hbl : b < (z_s X).heap.size) (hbA : ¬ z_F X b) {jx : Nat} {a1 a2 a3 a4 : Int32} (hs1 : vp_in (nI (5 * jx) + 1) L ∧ xs (nI (5 * jx) + 1).toNatClampNeg = a1) (hs2 : vp_in (nI (5 * jx) + 2) L ∧ xs (nI (5 * jx) + 2).toNatClampNeg = a2) (hs3 : vp_in (nI (5 * jx) + 3) L ∧ xs (nI (5 * jx) + 3).toNatClampNeg = a3) (hs4 : vp_in (nI (5 * jx) + 4) L ∧ xs (nI (5 * jx) + 4).toNatClampNeg = a4) {u : sS} {x pa sp ln rf sb m pn td ou : Nat} {th : Int32} {on : Int64} {Mw : zM} (hI : s_LX (z_G X) x pa sp ln rf sb m pn td ou u u th on Mw) (hok : s_ok jx u) (hj : jx < 64) {kq nq : Nat} (hkq : kq + 4000 ≤ 600128) (hnq : nq + 60000 ≤ 7301098) (kk : ∀ v th on Mz, s_LX (z_G X) x pa sp ln rf sb m pn td ou v v th on Mz → s_ok (jx + 1) v → z_W X Mz (kq + 4000) (nq + 60000) 27 [(4, .int (nI (5 * (jx + 1)))), (0, .ref b), (1, .ref x), (2, .ref m), (3, .ref ou)] []) : z_W X Mw kq nq 1450 [(4, .int (nI (5 * jx))), (0, .ref b), (1, .ref x), (2, .ref m), (3, .ref ou)] [] := by
  refine z_aload_n C dL_law_1450 rfl 2 rfl ?_
  refine z_aload_n C dL_law_1451 rfl 1 rfl ?_
  refine z_iload C dL_law_1452 0 rfl ?_
  refine z_iconst C (v := 1) dL_law_1454 (by decide) ?_
  refine z_iadd C dL_law_1455 ?_
  refine z_sld C hX hbl hbA hs1.1 hs1.2 dL_law_1456 ?_
  refine z_aload_n C dL_law_1457 rfl 1 rfl ?_
  refine z_iload C dL_law_1458 0 rfl ?_
  refine z_iconst C (v := 2) dL_law_1460 (by decide) ?_
  refine z_iadd C dL_law_1461 ?_
  refine z_sld C hX hbl hbA hs2.1 hs2.2 dL_law_1462 ?_
  refine z_aload_n C dL_law_1463 rfl 1 rfl ?_
  refine z_iload C dL_law_1464 0 rfl ?_
  refine z_iconst C (v := 3) dL_law_1466 (by decide) ?_
  refine z_iadd C dL_law_1467 ?_
  refine z_sld C hX hbl hbA hs3.1 hs3.2 dL_law_1468 ?_
  refine z_aload_n C dL_law_1469 rfl 1 rfl ?_
  refine z_iload C dL_law_1470 0 rfl ?_
  refine z_iconst C (v := 4) dL_law_1472 (by decide) ?_
  refine z_iadd C dL_law_1473 ?_
  refine z_sld C hX hbl hbA hs4.1 hs4.2 dL_law_1474 ?_
  refine z_aload_n C dL_law_1475 rfl 4 rfl ?_
  refine z_callHi (rest := []) (k' := kq + 8) (n' := nq + 48) C (s_LX_P hI (fun hC9 hd9 ho9 => w_bring (z_l X) h_st hC9 hd9 ho9 hok a1 a2 a3 a4)) (ch_bring C ⟨Nat.le_of_ble_eq_true rfl, Nat.le_of_ble_eq_true rfl⟩) rfl rfl (Nat.le_of_ble_eq_true rfl) rfl rfl (by show _ ≤ 600128; omega) (by show _ ≤ 7301098; omega) dL_law_1476 (fun xk M1 hq => ?_)
  obtain ⟨hk1, on1, hI1, ho1⟩ := hq
  refine z_istore (lv' := [(5, .int xk), (4, .int (nI (5 * jx))), (0, .ref b), (1, .ref x), (2, .ref m), (3, .ref ou)]) C dL_law_1479 (by decide) rfl ?_
  refine z_aload_n C dL_law_1481 rfl 4 rfl ?_
  refine z_aload_n C dL_law_1482 rfl 2 rfl ?_
  refine z_iload C dL_law_1483 1 rfl ?_
  refine z_iconst C (v := 1) dL_law_1485 (by decide) ?_
  refine z_iadd C dL_law_1486 ?_
  refine z_sld C hX hbl hbA hs1.1 hs1.2 dL_law_1487 ?_
  refine z_aload_n C dL_law_1488 rfl 2 rfl ?_
  refine z_iload C dL_law_1489 1 rfl ?_
  refine z_iconst C (v := 2) dL_law_1491 (by decide) ?_
  refine z_iadd C dL_law_1492 ?_
  refine z_sld C hX hbl hbA hs2.1 hs2.2 dL_law_1493 ?_
  refine z_aload_n C dL_law_1494 rfl 2 rfl ?_
  refine z_iload C dL_law_1495 1 rfl ?_
  refine z_iconst C (v := 3) dL_law_1497 (by decide) ?_
  refine z_iadd C dL_law_1498 ?_
  refine z_sld C hX hbl hbA hs3.1 hs3.2 dL_law_1499 ?_
  refine z_aload_n C dL_law_1500 rfl 2 rfl ?_
  refine z_iload C dL_law_1501 1 rfl ?_
  refine z_iconst C (v := 4) dL_law_1503 (by decide) ?_
  refine z_iadd C dL_law_1504 ?_
  refine z_sld C hX hbl hbA hs4.1 hs4.2 dL_law_1505 ?_
  obtain ⟨tp9, hm9⟩ := s_LX_m hI1
  refine z_callVi (rest := []) (k' := kq + 8) (n' := nq + 48) C (s_LX_R hI1 (fun hR9 => a_X5_bring (z_l X) hR9 hok (by omega) a1 a2 a3 a4)) (cs_L_210 C ⟨Nat.le_of_ble_eq_true rfl, Nat.le_of_ble_eq_true rfl⟩) hm9 rfl rfl rfl rfl (Nat.le_of_ble_eq_true rfl) rfl rfl (by show _ ≤ 600128; omega) (by show _ ≤ 7301098; omega) dL_law_1506 (fun xr M2 hq => ?_)
  obtain ⟨hI2, hr2⟩ := hq
  obtain ⟨tp8, hm8⟩ := s_LX_m hI2
  obtain ⟨os8, hou8⟩ := s_LX_ou hI2
  refine z_istore (lv' := [(6, .int xr), (5, .int xk), (4, .int (nI (5 * jx))), (0, .ref b), (1, .ref x), (2, .ref m), (3, .ref ou)]) C dL_law_1509 (by decide) rfl ?_
  refine z_aload_n C dL_law_1511 rfl 5 rfl ?_
  refine z_callVi (rest := []) (k' := kq + 8) (n' := nq + 48) C (c_X5_thrown (z_l X) (z_G X) hm8) (cs_L_150 C ⟨Nat.le_of_ble_eq_true rfl, Nat.le_of_ble_eq_true rfl⟩) hm8 rfl rfl rfl rfl (Nat.le_of_ble_eq_true rfl) rfl rfl (by show _ ≤ 600128; omega) (by show _ ≤ 7301098; omega) dL_law_1512 (fun x3 M3 hq => ?_)
  obtain ⟨e3, rfl⟩ := hq
  rw [e3]
  refine z_iload C dL_law_1515 1 rfl ?_
  refine z_icmp_eq C (tgt := 1522) dL_law_1517 (by decide) (fun _ => ?_) (fun c1517 => absurd hk1.symm c1517)
  refine z_iload C dL_law_1522 1 rfl ?_
  refine z_if_ne C (tgt := 1540) dL_law_1524 (by decide) (fun c1524 => ?_) (fun c1524 => ?_)
  · refine z_goto C (tgt := 2808) dL_law_1540 (by decide) ?_
    refine z_iinc (v := nI (5 * (jx + 1))) (lv' := [(4, .int (nI (5 * (jx + 1)))), (6, .int xr), (5, .int xk), (0, .ref b), (1, .ref x), (2, .ref m), (3, .ref ou)]) C dL_law_2808 2 rfl (j_inc5 jx) (by decide) rfl ?_
    refine z_goto C (tgt := 27) dL_law_2811 (by decide) ?_
    refine z_fewer [0, 3, 4, 5, 6] rfl ?_
    refine z_widen (k' := kq + 4000) (n' := nq + 60000) (by omega) (by omega) ?_
    exact kk _ _ _ _ hI2 (so_bring hok)
  · refine z_aload_n C dL_law_1527 rfl 6 rfl ?_
    refine gf_L_13 C hou8 dL_law_1528 ?_
    refine z_iload C dL_law_1531 0 rfl ?_
    refine z_i2l C dL_law_1533 ?_
    refine z_lcmp C dL_law_1534 ?_
    refine z_if_eq C (tgt := 1540) dL_law_1535 (by decide) (fun _ => ?_) (fun c1535 => absurd (by rw [ho1 (hk1.symm.trans c1524), hr2 (hk1.symm.trans c1524)]; exact lg_cmp_rf _) c1535)
    refine z_goto C (tgt := 2808) dL_law_1540 (by decide) ?_
    refine z_iinc (v := nI (5 * (jx + 1))) (lv' := [(4, .int (nI (5 * (jx + 1)))), (6, .int xr), (5, .int xk), (0, .ref b), (1, .ref x), (2, .ref m), (3, .ref ou)]) C dL_law_2808 2 rfl (j_inc5 jx) (by decide) rfl ?_
    refine z_goto C (tgt := 27) dL_law_2811 (by decide) ?_
    refine z_fewer [0, 3, 4, 5, 6] rfl ?_
    refine z_widen (k' := kq + 4000) (n' := nq + 60000) (by omega) (by omega) ?_
    exact kk _ _ _ _ hI2 (so_bring hok)
set_option maxRecDepth 20000 in
theorem lc_fill {X : zX} (C : z_C X cL_law RL 7 room_1) (h_st : (z_l X).stackTraces = false) {b L : Nat} {xs : Nat → Int32} (hX : va_X b L xs (z_s X) (z_s X).heap) (hbl : b < (z_s X).heap.size) (hbA : ¬ z_F X b) {jx : Nat} {a1 a2 a3 a4 : Int32} (hs1 : vp_in (nI (5 * jx) + 1) L ∧ xs (nI (5 * jx) + 1).toNatClampNeg = a1) (hs2 : vp_in (nI (5 * jx) + 2) L ∧ xs (nI (5 * jx) + 2).toNatClampNeg = a2) (hs3 : vp_in (nI (5 * jx) + 3) L ∧ xs (nI (5 * jx) + 3).toNatClampNeg = a3) (hs4 : vp_in (nI (5 * jx) + 4) L ∧ xs (nI (5 * jx) + 4).toNatClampNeg = a4) {u : sS} {x pa sp ln rf sb m pn td ou : Nat} {th : Int32} {on : Int64} {Mw : zM} (hI : s_LX (z_G X) x pa sp ln rf sb m pn td ou u u th on Mw) (hok : s_ok jx u) (hj : jx < 64) {kq nq : Nat} (hkq : kq + 4000 ≤ 600128) (hnq : nq + 60000 ≤ 7301098) (kk : ∀ v th on Mz, s_LX (z_G X) x pa sp ln rf sb m pn td ou v v th on Mz → s_ok (jx + 1) v → z_W X Mz (kq + 4000) (nq + 60000) 27 [(4, .int (nI (5 * (jx + 1)))), (0, .ref b), (1, .ref x), (2, .ref m), (3, .ref ou)] []) : z_W X Mw kq nq 1543 [(4, .int (nI (5 * jx))), (0, .ref b), (1, .ref x), (2, .ref m), (3, .ref ou)] [] := by
  refine z_aload_n C dL_law_1543 rfl 2 rfl ?_
  refine z_aload_n C dL_law_1544 rfl 1 rfl ?_
  refine z_iload C dL_law_1545 0 rfl ?_
  refine z_iconst C (v := 1) dL_law_1547 (by decide) ?_
  refine z_iadd C dL_law_1548 ?_
  refine z_sld C hX hbl hbA hs1.1 hs1.2 dL_law_1549 ?_
  refine z_aload_n C dL_law_1550 rfl 1 rfl ?_
  refine z_iload C dL_law_1551 0 rfl ?_
  refine z_iconst C (v := 2) dL_law_1553 (by decide) ?_
  refine z_iadd C dL_law_1554 ?_
  refine z_sld C hX hbl hbA hs2.1 hs2.2 dL_law_1555 ?_
  refine z_aload_n C dL_law_1556 rfl 1 rfl ?_
  refine z_iload C dL_law_1557 0 rfl ?_
  refine z_iconst C (v := 3) dL_law_1559 (by decide) ?_
  refine z_iadd C dL_law_1560 ?_
  refine z_sld C hX hbl hbA hs3.1 hs3.2 dL_law_1561 ?_
  refine z_aload_n C dL_law_1562 rfl 1 rfl ?_
  refine z_iload C dL_law_1563 0 rfl ?_
  refine z_iconst C (v := 4) dL_law_1565 (by decide) ?_
  refine z_iadd C dL_law_1566 ?_
  refine z_sld C hX hbl hbA hs4.1 hs4.2 dL_law_1567 ?_
  refine z_aload_n C dL_law_1568 rfl 4 rfl ?_
  refine z_callHi (rest := []) (k' := kq + 8) (n' := nq + 48) C (s_LX_P hI (fun hC9 hd9 ho9 => w_fill (z_l X) h_st hC9 hd9 ho9 hok a1 a2 a3 a4)) (ch_fill C ⟨Nat.le_of_ble_eq_true rfl, Nat.le_of_ble_eq_true rfl⟩) rfl rfl (Nat.le_of_ble_eq_true rfl) rfl rfl (by show _ ≤ 600128; omega) (by show _ ≤ 7301098; omega) dL_law_1569 (fun xk M1 hq => ?_)
  obtain ⟨hk1, on1, hI1, ho1⟩ := hq
  refine z_istore (lv' := [(5, .int xk), (4, .int (nI (5 * jx))), (0, .ref b), (1, .ref x), (2, .ref m), (3, .ref ou)]) C dL_law_1572 (by decide) rfl ?_
  refine z_aload_n C dL_law_1574 rfl 4 rfl ?_
  refine z_aload_n C dL_law_1575 rfl 2 rfl ?_
  refine z_iload C dL_law_1576 1 rfl ?_
  refine z_iconst C (v := 1) dL_law_1578 (by decide) ?_
  refine z_iadd C dL_law_1579 ?_
  refine z_sld C hX hbl hbA hs1.1 hs1.2 dL_law_1580 ?_
  refine z_aload_n C dL_law_1581 rfl 2 rfl ?_
  refine z_iload C dL_law_1582 1 rfl ?_
  refine z_iconst C (v := 2) dL_law_1584 (by decide) ?_
  refine z_iadd C dL_law_1585 ?_
  refine z_sld C hX hbl hbA hs2.1 hs2.2 dL_law_1586 ?_
  refine z_aload_n C dL_law_1587 rfl 2 rfl ?_
  refine z_iload C dL_law_1588 1 rfl ?_
  refine z_iconst C (v := 3) dL_law_1590 (by decide) ?_
  refine z_iadd C dL_law_1591 ?_
  refine z_sld C hX hbl hbA hs3.1 hs3.2 dL_law_1592 ?_
  refine z_aload_n C dL_law_1593 rfl 2 rfl ?_
  refine z_iload C dL_law_1594 1 rfl ?_
  refine z_iconst C (v := 4) dL_law_1596 (by decide) ?_
  refine z_iadd C dL_law_1597 ?_
  refine z_sld C hX hbl hbA hs4.1 hs4.2 dL_law_1598 ?_
  obtain ⟨tp9, hm9⟩ := s_LX_m hI1
  refine z_callVi (rest := []) (k' := kq + 8) (n' := nq + 48) C (s_LX_R hI1 (fun hR9 => a_X5_fill (z_l X) hR9 hok (by omega) a1 a2 a3 a4)) (cs_L_213 C ⟨Nat.le_of_ble_eq_true rfl, Nat.le_of_ble_eq_true rfl⟩) hm9 rfl rfl rfl rfl (Nat.le_of_ble_eq_true rfl) rfl rfl (by show _ ≤ 600128; omega) (by show _ ≤ 7301098; omega) dL_law_1599 (fun xr M2 hq => ?_)
  obtain ⟨hI2, hr2⟩ := hq
  obtain ⟨tp8, hm8⟩ := s_LX_m hI2
  obtain ⟨os8, hou8⟩ := s_LX_ou hI2
  refine z_istore (lv' := [(6, .int xr), (5, .int xk), (4, .int (nI (5 * jx))), (0, .ref b), (1, .ref x), (2, .ref m), (3, .ref ou)]) C dL_law_1602 (by decide) rfl ?_
  refine z_aload_n C dL_law_1604 rfl 5 rfl ?_
  refine z_callVi (rest := []) (k' := kq + 8) (n' := nq + 48) C (c_X5_thrown (z_l X) (z_G X) hm8) (cs_L_150 C ⟨Nat.le_of_ble_eq_true rfl, Nat.le_of_ble_eq_true rfl⟩) hm8 rfl rfl rfl rfl (Nat.le_of_ble_eq_true rfl) rfl rfl (by show _ ≤ 600128; omega) (by show _ ≤ 7301098; omega) dL_law_1605 (fun x3 M3 hq => ?_)
  obtain ⟨e3, rfl⟩ := hq
  rw [e3]
  refine z_iload C dL_law_1608 1 rfl ?_
  refine z_icmp_eq C (tgt := 1615) dL_law_1610 (by decide) (fun _ => ?_) (fun c1610 => absurd hk1.symm c1610)
  refine z_iload C dL_law_1615 1 rfl ?_
  refine z_if_ne C (tgt := 1633) dL_law_1617 (by decide) (fun c1617 => ?_) (fun c1617 => ?_)
  · refine z_goto C (tgt := 2808) dL_law_1633 (by decide) ?_
    refine z_iinc (v := nI (5 * (jx + 1))) (lv' := [(4, .int (nI (5 * (jx + 1)))), (6, .int xr), (5, .int xk), (0, .ref b), (1, .ref x), (2, .ref m), (3, .ref ou)]) C dL_law_2808 2 rfl (j_inc5 jx) (by decide) rfl ?_
    refine z_goto C (tgt := 27) dL_law_2811 (by decide) ?_
    refine z_fewer [0, 3, 4, 5, 6] rfl ?_
    refine z_widen (k' := kq + 4000) (n' := nq + 60000) (by omega) (by omega) ?_
    exact kk _ _ _ _ hI2 (so_fill hok)
  · refine z_aload_n C dL_law_1620 rfl 6 rfl ?_
    refine gf_L_13 C hou8 dL_law_1621 ?_
    refine z_iload C dL_law_1624 0 rfl ?_
    refine z_i2l C dL_law_1626 ?_
    refine z_lcmp C dL_law_1627 ?_
    refine z_if_eq C (tgt := 1633) dL_law_1628 (by decide) (fun _ => ?_) (fun c1628 => absurd (by rw [ho1 (hk1.symm.trans c1617), hr2 (hk1.symm.trans c1617)]; exact lg_cmp_rf _) c1628)
    refine z_goto C (tgt := 2808) dL_law_1633 (by decide) ?_
    refine z_iinc (v := nI (5 * (jx + 1))) (lv' := [(4, .int (nI (5 * (jx + 1)))), (6, .int xr), (5, .int xk), (0, .ref b), (1, .ref x), (2, .ref m), (3, .ref ou)]) C dL_law_2808 2 rfl (j_inc5 jx) (by decide) rfl ?_
    refine z_goto C (tgt := 27) dL_law_2811 (by decide) ?_
    refine z_fewer [0, 3, 4, 5, 6] rfl ?_
    refine z_widen (k' := kq + 4000) (n' := nq + 60000) (by omega) (by omega) ?_
    exact kk _ _ _ _ hI2 (so_fill hok)
set_option maxRecDepth 20000 in
theorem lc_pack {X : zX} (C : z_C X cL_law RL 7 room_1) (h_st : (z_l X).stackTraces = false) {b L : Nat} {xs : Nat → Int32} (hX : va_X b L xs (z_s X) (z_s X).heap) (hbl : b < (z_s X).heap.size) (hbA : ¬ z_F X b) {jx : Nat} {a1 a2 a3 a4 : Int32} (hs1 : vp_in (nI (5 * jx) + 1) L ∧ xs (nI (5 * jx) + 1).toNatClampNeg = a1) (hs2 : vp_in (nI (5 * jx) + 2) L ∧ xs (nI (5 * jx) + 2).toNatClampNeg = a2) (hs3 : vp_in (nI (5 * jx) + 3) L ∧ xs (nI (5 * jx) + 3).toNatClampNeg = a3) (hs4 : vp_in (nI (5 * jx) + 4) L ∧ xs (nI (5 * jx) + 4).toNatClampNeg = a4) {u : sS} {x pa sp ln rf sb m pn td ou : Nat} {th : Int32} {on : Int64} {Mw : zM} (hI : s_LX (z_G X) x pa sp ln rf sb m pn td ou u u th on Mw) (hok : s_ok jx u) (hj : jx < 64) {kq nq : Nat} (hkq : kq + 4000 ≤ 600128) (hnq : nq + 60000 ≤ 7301098) (kk : ∀ v th on Mz, s_LX (z_G X) x pa sp ln rf sb m pn td ou v v th on Mz → s_ok (jx + 1) v → z_W X Mz (kq + 4000) (nq + 60000) 27 [(4, .int (nI (5 * (jx + 1)))), (0, .ref b), (1, .ref x), (2, .ref m), (3, .ref ou)] []) : z_W X Mw kq nq 1636 [(4, .int (nI (5 * jx))), (0, .ref b), (1, .ref x), (2, .ref m), (3, .ref ou)] [] := by
  refine z_aload_n C dL_law_1636 rfl 2 rfl ?_
  refine z_aload_n C dL_law_1637 rfl 1 rfl ?_
  refine z_iload C dL_law_1638 0 rfl ?_
  refine z_iconst C (v := 1) dL_law_1640 (by decide) ?_
  refine z_iadd C dL_law_1641 ?_
  refine z_sld C hX hbl hbA hs1.1 hs1.2 dL_law_1642 ?_
  refine z_aload_n C dL_law_1643 rfl 4 rfl ?_
  refine z_callHi (rest := []) (k' := kq + 8) (n' := nq + 48) C (s_LX_P hI (fun hC9 hd9 ho9 => w_pack (z_l X) h_st hC9 hd9 ho9 hok a1)) (ch_pack C ⟨Nat.le_of_ble_eq_true rfl, Nat.le_of_ble_eq_true rfl⟩) rfl rfl (Nat.le_of_ble_eq_true rfl) rfl rfl (by show _ ≤ 600128; omega) (by show _ ≤ 7301098; omega) dL_law_1644 (fun xk M1 hq => ?_)
  obtain ⟨hk1, on1, hI1, ho1⟩ := hq
  refine z_istore (lv' := [(5, .int xk), (4, .int (nI (5 * jx))), (0, .ref b), (1, .ref x), (2, .ref m), (3, .ref ou)]) C dL_law_1647 (by decide) rfl ?_
  refine z_aload_n C dL_law_1649 rfl 4 rfl ?_
  refine z_aload_n C dL_law_1650 rfl 2 rfl ?_
  refine z_iload C dL_law_1651 1 rfl ?_
  refine z_iconst C (v := 1) dL_law_1653 (by decide) ?_
  refine z_iadd C dL_law_1654 ?_
  refine z_sld C hX hbl hbA hs1.1 hs1.2 dL_law_1655 ?_
  obtain ⟨tp9, hm9⟩ := s_LX_m hI1
  refine z_callVi (rest := []) (k' := kq + 8) (n' := nq + 48) C (s_LX_R hI1 (fun hR9 => a_X5_pack (z_l X) hR9 hok (by omega) a1)) (cs_L_216 C ⟨Nat.le_of_ble_eq_true rfl, Nat.le_of_ble_eq_true rfl⟩) hm9 rfl rfl rfl rfl (Nat.le_of_ble_eq_true rfl) rfl rfl (by show _ ≤ 600128; omega) (by show _ ≤ 7301098; omega) dL_law_1656 (fun xr M2 hq => ?_)
  obtain ⟨hI2, hr2⟩ := hq
  obtain ⟨tp8, hm8⟩ := s_LX_m hI2
  obtain ⟨os8, hou8⟩ := s_LX_ou hI2
  refine z_istore (lv' := [(6, .int xr), (5, .int xk), (4, .int (nI (5 * jx))), (0, .ref b), (1, .ref x), (2, .ref m), (3, .ref ou)]) C dL_law_1659 (by decide) rfl ?_
  refine z_aload_n C dL_law_1661 rfl 5 rfl ?_
  refine z_callVi (rest := []) (k' := kq + 8) (n' := nq + 48) C (c_X5_thrown (z_l X) (z_G X) hm8) (cs_L_150 C ⟨Nat.le_of_ble_eq_true rfl, Nat.le_of_ble_eq_true rfl⟩) hm8 rfl rfl rfl rfl (Nat.le_of_ble_eq_true rfl) rfl rfl (by show _ ≤ 600128; omega) (by show _ ≤ 7301098; omega) dL_law_1662 (fun x3 M3 hq => ?_)
  obtain ⟨e3, rfl⟩ := hq
  rw [e3]
  refine z_iload C dL_law_1665 1 rfl ?_
  refine z_icmp_eq C (tgt := 1672) dL_law_1667 (by decide) (fun _ => ?_) (fun c1667 => absurd hk1.symm c1667)
  refine z_iload C dL_law_1672 1 rfl ?_
  refine z_if_ne C (tgt := 1690) dL_law_1674 (by decide) (fun c1674 => ?_) (fun c1674 => ?_)
  · refine z_goto C (tgt := 2808) dL_law_1690 (by decide) ?_
    refine z_iinc (v := nI (5 * (jx + 1))) (lv' := [(4, .int (nI (5 * (jx + 1)))), (6, .int xr), (5, .int xk), (0, .ref b), (1, .ref x), (2, .ref m), (3, .ref ou)]) C dL_law_2808 2 rfl (j_inc5 jx) (by decide) rfl ?_
    refine z_goto C (tgt := 27) dL_law_2811 (by decide) ?_
    refine z_fewer [0, 3, 4, 5, 6] rfl ?_
    refine z_widen (k' := kq + 4000) (n' := nq + 60000) (by omega) (by omega) ?_
    exact kk _ _ _ _ hI2 (so_pack hok)
  · refine z_aload_n C dL_law_1677 rfl 6 rfl ?_
    refine gf_L_13 C hou8 dL_law_1678 ?_
    refine z_iload C dL_law_1681 0 rfl ?_
    refine z_i2l C dL_law_1683 ?_
    refine z_lcmp C dL_law_1684 ?_
    refine z_if_eq C (tgt := 1690) dL_law_1685 (by decide) (fun _ => ?_) (fun c1685 => absurd (by rw [ho1 (hk1.symm.trans c1674), hr2 (hk1.symm.trans c1674)]; exact lg_cmp_rf _) c1685)
    refine z_goto C (tgt := 2808) dL_law_1690 (by decide) ?_
    refine z_iinc (v := nI (5 * (jx + 1))) (lv' := [(4, .int (nI (5 * (jx + 1)))), (6, .int xr), (5, .int xk), (0, .ref b), (1, .ref x), (2, .ref m), (3, .ref ou)]) C dL_law_2808 2 rfl (j_inc5 jx) (by decide) rfl ?_
    refine z_goto C (tgt := 27) dL_law_2811 (by decide) ?_
    refine z_fewer [0, 3, 4, 5, 6] rfl ?_
    refine z_widen (k' := kq + 4000) (n' := nq + 60000) (by omega) (by omega) ?_
    exact kk _ _ _ _ hI2 (so_pack hok)
set_option maxRecDepth 20000 in
theorem lc_pour {X : zX} (C : z_C X cL_law RL 7 room_1) (h_st : (z_l X).stackTraces = false) {b L : Nat} {xs : Nat → Int32} (hX : va_X b L xs (z_s X) (z_s X).heap) (hbl : b < (z_s X).heap.size) (hbA : ¬ z_F X b) {jx : Nat} {a1 a2 a3 a4 : Int32} (hs1 : vp_in (nI (5 * jx) + 1) L ∧ xs (nI (5 * jx) + 1).toNatClampNeg = a1) (hs2 : vp_in (nI (5 * jx) + 2) L ∧ xs (nI (5 * jx) + 2).toNatClampNeg = a2) (hs3 : vp_in (nI (5 * jx) + 3) L ∧ xs (nI (5 * jx) + 3).toNatClampNeg = a3) (hs4 : vp_in (nI (5 * jx) + 4) L ∧ xs (nI (5 * jx) + 4).toNatClampNeg = a4) {u : sS} {x pa sp ln rf sb m pn td ou : Nat} {th : Int32} {on : Int64} {Mw : zM} (hI : s_LX (z_G X) x pa sp ln rf sb m pn td ou u u th on Mw) (hok : s_ok jx u) (hj : jx < 64) {kq nq : Nat} (hkq : kq + 4000 ≤ 600128) (hnq : nq + 60000 ≤ 7301098) (kk : ∀ v th on Mz, s_LX (z_G X) x pa sp ln rf sb m pn td ou v v th on Mz → s_ok (jx + 1) v → z_W X Mz (kq + 4000) (nq + 60000) 27 [(4, .int (nI (5 * (jx + 1)))), (0, .ref b), (1, .ref x), (2, .ref m), (3, .ref ou)] []) : z_W X Mw kq nq 1693 [(4, .int (nI (5 * jx))), (0, .ref b), (1, .ref x), (2, .ref m), (3, .ref ou)] [] := by
  refine z_aload_n C dL_law_1693 rfl 2 rfl ?_
  refine z_aload_n C dL_law_1694 rfl 1 rfl ?_
  refine z_iload C dL_law_1695 0 rfl ?_
  refine z_iconst C (v := 1) dL_law_1697 (by decide) ?_
  refine z_iadd C dL_law_1698 ?_
  refine z_sld C hX hbl hbA hs1.1 hs1.2 dL_law_1699 ?_
  refine z_aload_n C dL_law_1700 rfl 1 rfl ?_
  refine z_iload C dL_law_1701 0 rfl ?_
  refine z_iconst C (v := 2) dL_law_1703 (by decide) ?_
  refine z_iadd C dL_law_1704 ?_
  refine z_sld C hX hbl hbA hs2.1 hs2.2 dL_law_1705 ?_
  refine z_aload_n C dL_law_1706 rfl 1 rfl ?_
  refine z_iload C dL_law_1707 0 rfl ?_
  refine z_iconst C (v := 3) dL_law_1709 (by decide) ?_
  refine z_iadd C dL_law_1710 ?_
  refine z_sld C hX hbl hbA hs3.1 hs3.2 dL_law_1711 ?_
  refine z_aload_n C dL_law_1712 rfl 4 rfl ?_
  refine z_callHi (rest := []) (k' := kq + 8) (n' := nq + 48) C (s_LX_P hI (fun hC9 hd9 ho9 => w_pour (z_l X) h_st hC9 hd9 ho9 hok a1 a2 a3)) (ch_pour C ⟨Nat.le_of_ble_eq_true rfl, Nat.le_of_ble_eq_true rfl⟩) rfl rfl (Nat.le_of_ble_eq_true rfl) rfl rfl (by show _ ≤ 600128; omega) (by show _ ≤ 7301098; omega) dL_law_1713 (fun xk M1 hq => ?_)
  obtain ⟨hk1, on1, hI1, ho1⟩ := hq
  refine z_istore (lv' := [(5, .int xk), (4, .int (nI (5 * jx))), (0, .ref b), (1, .ref x), (2, .ref m), (3, .ref ou)]) C dL_law_1716 (by decide) rfl ?_
  refine z_aload_n C dL_law_1718 rfl 4 rfl ?_
  refine z_aload_n C dL_law_1719 rfl 2 rfl ?_
  refine z_iload C dL_law_1720 1 rfl ?_
  refine z_iconst C (v := 1) dL_law_1722 (by decide) ?_
  refine z_iadd C dL_law_1723 ?_
  refine z_sld C hX hbl hbA hs1.1 hs1.2 dL_law_1724 ?_
  refine z_aload_n C dL_law_1725 rfl 2 rfl ?_
  refine z_iload C dL_law_1726 1 rfl ?_
  refine z_iconst C (v := 2) dL_law_1728 (by decide) ?_
  refine z_iadd C dL_law_1729 ?_
  refine z_sld C hX hbl hbA hs2.1 hs2.2 dL_law_1730 ?_
  refine z_aload_n C dL_law_1731 rfl 2 rfl ?_
  refine z_iload C dL_law_1732 1 rfl ?_
  refine z_iconst C (v := 3) dL_law_1734 (by decide) ?_
  refine z_iadd C dL_law_1735 ?_
  refine z_sld C hX hbl hbA hs3.1 hs3.2 dL_law_1736 ?_
  obtain ⟨tp9, hm9⟩ := s_LX_m hI1
  refine z_callVi (rest := []) (k' := kq + 8) (n' := nq + 48) C (s_LX_R hI1 (fun hR9 => a_X5_pour (z_l X) hR9 hok (by omega) a1 a2 a3)) (cs_L_219 C ⟨Nat.le_of_ble_eq_true rfl, Nat.le_of_ble_eq_true rfl⟩) hm9 rfl rfl rfl rfl (Nat.le_of_ble_eq_true rfl) rfl rfl (by show _ ≤ 600128; omega) (by show _ ≤ 7301098; omega) dL_law_1737 (fun xr M2 hq => ?_)
  obtain ⟨hI2, hr2⟩ := hq
  obtain ⟨tp8, hm8⟩ := s_LX_m hI2
  obtain ⟨os8, hou8⟩ := s_LX_ou hI2
  refine z_istore (lv' := [(6, .int xr), (5, .int xk), (4, .int (nI (5 * jx))), (0, .ref b), (1, .ref x), (2, .ref m), (3, .ref ou)]) C dL_law_1740 (by decide) rfl ?_
  refine z_aload_n C dL_law_1742 rfl 5 rfl ?_
  refine z_callVi (rest := []) (k' := kq + 8) (n' := nq + 48) C (c_X5_thrown (z_l X) (z_G X) hm8) (cs_L_150 C ⟨Nat.le_of_ble_eq_true rfl, Nat.le_of_ble_eq_true rfl⟩) hm8 rfl rfl rfl rfl (Nat.le_of_ble_eq_true rfl) rfl rfl (by show _ ≤ 600128; omega) (by show _ ≤ 7301098; omega) dL_law_1743 (fun x3 M3 hq => ?_)
  obtain ⟨e3, rfl⟩ := hq
  rw [e3]
  refine z_iload C dL_law_1746 1 rfl ?_
  refine z_icmp_eq C (tgt := 1753) dL_law_1748 (by decide) (fun _ => ?_) (fun c1748 => absurd hk1.symm c1748)
  refine z_iload C dL_law_1753 1 rfl ?_
  refine z_if_ne C (tgt := 1771) dL_law_1755 (by decide) (fun c1755 => ?_) (fun c1755 => ?_)
  · refine z_goto C (tgt := 2808) dL_law_1771 (by decide) ?_
    refine z_iinc (v := nI (5 * (jx + 1))) (lv' := [(4, .int (nI (5 * (jx + 1)))), (6, .int xr), (5, .int xk), (0, .ref b), (1, .ref x), (2, .ref m), (3, .ref ou)]) C dL_law_2808 2 rfl (j_inc5 jx) (by decide) rfl ?_
    refine z_goto C (tgt := 27) dL_law_2811 (by decide) ?_
    refine z_fewer [0, 3, 4, 5, 6] rfl ?_
    refine z_widen (k' := kq + 4000) (n' := nq + 60000) (by omega) (by omega) ?_
    exact kk _ _ _ _ hI2 (so_pour hok)
  · refine z_aload_n C dL_law_1758 rfl 6 rfl ?_
    refine gf_L_13 C hou8 dL_law_1759 ?_
    refine z_iload C dL_law_1762 0 rfl ?_
    refine z_i2l C dL_law_1764 ?_
    refine z_lcmp C dL_law_1765 ?_
    refine z_if_eq C (tgt := 1771) dL_law_1766 (by decide) (fun _ => ?_) (fun c1766 => absurd (by rw [ho1 (hk1.symm.trans c1755), hr2 (hk1.symm.trans c1755)]; exact lg_cmp_rf _) c1766)
    refine z_goto C (tgt := 2808) dL_law_1771 (by decide) ?_
    refine z_iinc (v := nI (5 * (jx + 1))) (lv' := [(4, .int (nI (5 * (jx + 1)))), (6, .int xr), (5, .int xk), (0, .ref b), (1, .ref x), (2, .ref m), (3, .ref ou)]) C dL_law_2808 2 rfl (j_inc5 jx) (by decide) rfl ?_
    refine z_goto C (tgt := 27) dL_law_2811 (by decide) ?_
    refine z_fewer [0, 3, 4, 5, 6] rfl ?_
    refine z_widen (k' := kq + 4000) (n' := nq + 60000) (by omega) (by omega) ?_
    exact kk _ _ _ _ hI2 (so_pour hok)
