/-! PART 69: the law's cases -/
theorem dL_law_1165 : decode cL_law 1165 = .ok (.aload_n 1, 1) := by decide +kernel
theorem dL_law_1166 : decode cL_law 1166 = .ok (.aload_n 0, 1) := by decide +kernel
theorem dL_law_1167 : decode cL_law 1167 = .ok (.iload 4, 2) := by decide +kernel
theorem dL_law_1169 : decode cL_law 1169 = .ok (.iconst 1, 1) := by decide +kernel
theorem dL_law_1170 : decode cL_law 1170 = .ok (.iadd, 1) := by decide +kernel
theorem dL_law_1171 : decode cL_law 1171 = .ok (.iaload, 1) := by decide +kernel
theorem dL_law_1172 : decode cL_law 1172 = .ok (.aload_n 0, 1) := by decide +kernel
theorem dL_law_1173 : decode cL_law 1173 = .ok (.iload 4, 2) := by decide +kernel
theorem dL_law_1175 : decode cL_law 1175 = .ok (.iconst 2, 1) := by decide +kernel
theorem dL_law_1176 : decode cL_law 1176 = .ok (.iadd, 1) := by decide +kernel
theorem dL_law_1177 : decode cL_law 1177 = .ok (.iaload, 1) := by decide +kernel
theorem dL_law_1178 : decode cL_law 1178 = .ok (.aload_n 3, 1) := by decide +kernel
theorem dL_law_1179 : decode cL_law 1179 = .ok (.invokestatic 220, 3) := by decide +kernel
theorem dL_law_1182 : decode cL_law 1182 = .ok (.istore 5, 2) := by decide +kernel
theorem dL_law_1184 : decode cL_law 1184 = .ok (.aload_n 2, 1) := by decide +kernel
theorem dL_law_1185 : decode cL_law 1185 = .ok (.aload_n 0, 1) := by decide +kernel
theorem dL_law_1186 : decode cL_law 1186 = .ok (.iload 4, 2) := by decide +kernel
theorem dL_law_1188 : decode cL_law 1188 = .ok (.iconst 1, 1) := by decide +kernel
theorem dL_law_1189 : decode cL_law 1189 = .ok (.iadd, 1) := by decide +kernel
theorem dL_law_1190 : decode cL_law 1190 = .ok (.iaload, 1) := by decide +kernel
theorem dL_law_1191 : decode cL_law 1191 = .ok (.aload_n 0, 1) := by decide +kernel
theorem dL_law_1192 : decode cL_law 1192 = .ok (.iload 4, 2) := by decide +kernel
theorem dL_law_1194 : decode cL_law 1194 = .ok (.iconst 2, 1) := by decide +kernel
theorem dL_law_1195 : decode cL_law 1195 = .ok (.iadd, 1) := by decide +kernel
theorem dL_law_1196 : decode cL_law 1196 = .ok (.iaload, 1) := by decide +kernel
theorem dL_law_1197 : decode cL_law 1197 = .ok (.invokevirtual 222, 3) := by decide +kernel
theorem dL_law_1200 : decode cL_law 1200 = .ok (.istore 6, 2) := by decide +kernel
theorem dL_law_1202 : decode cL_law 1202 = .ok (.goto 555, 3) := by decide +kernel
theorem dL_law_1205 : decode cL_law 1205 = .ok (.aload_n 1, 1) := by decide +kernel
theorem dL_law_1206 : decode cL_law 1206 = .ok (.aload_n 0, 1) := by decide +kernel
theorem dL_law_1207 : decode cL_law 1207 = .ok (.iload 4, 2) := by decide +kernel
theorem dL_law_1209 : decode cL_law 1209 = .ok (.iconst 1, 1) := by decide +kernel
theorem dL_law_1210 : decode cL_law 1210 = .ok (.iadd, 1) := by decide +kernel
theorem dL_law_1211 : decode cL_law 1211 = .ok (.iaload, 1) := by decide +kernel
theorem dL_law_1212 : decode cL_law 1212 = .ok (.aload_n 0, 1) := by decide +kernel
theorem dL_law_1213 : decode cL_law 1213 = .ok (.iload 4, 2) := by decide +kernel
theorem dL_law_1215 : decode cL_law 1215 = .ok (.iconst 2, 1) := by decide +kernel
theorem dL_law_1216 : decode cL_law 1216 = .ok (.iadd, 1) := by decide +kernel
theorem dL_law_1217 : decode cL_law 1217 = .ok (.iaload, 1) := by decide +kernel
theorem dL_law_1218 : decode cL_law 1218 = .ok (.aload_n 0, 1) := by decide +kernel
theorem dL_law_1219 : decode cL_law 1219 = .ok (.iload 4, 2) := by decide +kernel
theorem dL_law_1221 : decode cL_law 1221 = .ok (.iconst 3, 1) := by decide +kernel
theorem dL_law_1222 : decode cL_law 1222 = .ok (.iadd, 1) := by decide +kernel
theorem dL_law_1223 : decode cL_law 1223 = .ok (.iaload, 1) := by decide +kernel
theorem dL_law_1224 : decode cL_law 1224 = .ok (.aload_n 3, 1) := by decide +kernel
theorem dL_law_1225 : decode cL_law 1225 = .ok (.invokestatic 223, 3) := by decide +kernel
theorem dL_law_1228 : decode cL_law 1228 = .ok (.istore 5, 2) := by decide +kernel
theorem dL_law_1230 : decode cL_law 1230 = .ok (.aload_n 2, 1) := by decide +kernel
theorem dL_law_1231 : decode cL_law 1231 = .ok (.aload_n 0, 1) := by decide +kernel
theorem dL_law_1232 : decode cL_law 1232 = .ok (.iload 4, 2) := by decide +kernel
theorem dL_law_1234 : decode cL_law 1234 = .ok (.iconst 1, 1) := by decide +kernel
theorem dL_law_1235 : decode cL_law 1235 = .ok (.iadd, 1) := by decide +kernel
theorem dL_law_1236 : decode cL_law 1236 = .ok (.iaload, 1) := by decide +kernel
theorem dL_law_1237 : decode cL_law 1237 = .ok (.aload_n 0, 1) := by decide +kernel
theorem dL_law_1238 : decode cL_law 1238 = .ok (.iload 4, 2) := by decide +kernel
theorem dL_law_1240 : decode cL_law 1240 = .ok (.iconst 2, 1) := by decide +kernel
theorem dL_law_1241 : decode cL_law 1241 = .ok (.iadd, 1) := by decide +kernel
theorem dL_law_1242 : decode cL_law 1242 = .ok (.iaload, 1) := by decide +kernel
theorem dL_law_1243 : decode cL_law 1243 = .ok (.aload_n 0, 1) := by decide +kernel
theorem dL_law_1244 : decode cL_law 1244 = .ok (.iload 4, 2) := by decide +kernel
theorem dL_law_1246 : decode cL_law 1246 = .ok (.iconst 3, 1) := by decide +kernel
theorem dL_law_1247 : decode cL_law 1247 = .ok (.iadd, 1) := by decide +kernel
theorem dL_law_1248 : decode cL_law 1248 = .ok (.iaload, 1) := by decide +kernel
theorem dL_law_1249 : decode cL_law 1249 = .ok (.invokevirtual 225, 3) := by decide +kernel
theorem dL_law_1252 : decode cL_law 1252 = .ok (.istore 6, 2) := by decide +kernel
theorem dL_law_1254 : decode cL_law 1254 = .ok (.goto 503, 3) := by decide +kernel
theorem dL_law_1257 : decode cL_law 1257 = .ok (.aload_n 1, 1) := by decide +kernel
theorem dL_law_1258 : decode cL_law 1258 = .ok (.aload_n 0, 1) := by decide +kernel
theorem dL_law_1259 : decode cL_law 1259 = .ok (.iload 4, 2) := by decide +kernel
theorem dL_law_1261 : decode cL_law 1261 = .ok (.iconst 1, 1) := by decide +kernel
theorem dL_law_1262 : decode cL_law 1262 = .ok (.iadd, 1) := by decide +kernel
theorem dL_law_1263 : decode cL_law 1263 = .ok (.iaload, 1) := by decide +kernel
theorem dL_law_1264 : decode cL_law 1264 = .ok (.aload_n 3, 1) := by decide +kernel
theorem dL_law_1265 : decode cL_law 1265 = .ok (.invokestatic 226, 3) := by decide +kernel
theorem dL_law_1268 : decode cL_law 1268 = .ok (.istore 5, 2) := by decide +kernel
theorem dL_law_1270 : decode cL_law 1270 = .ok (.aload_n 2, 1) := by decide +kernel
theorem dL_law_1271 : decode cL_law 1271 = .ok (.aload_n 0, 1) := by decide +kernel
theorem dL_law_1272 : decode cL_law 1272 = .ok (.iload 4, 2) := by decide +kernel
theorem dL_law_1274 : decode cL_law 1274 = .ok (.iconst 1, 1) := by decide +kernel
theorem dL_law_1275 : decode cL_law 1275 = .ok (.iadd, 1) := by decide +kernel
theorem dL_law_1276 : decode cL_law 1276 = .ok (.iaload, 1) := by decide +kernel
theorem dL_law_1277 : decode cL_law 1277 = .ok (.invokevirtual 228, 3) := by decide +kernel
theorem dL_law_1280 : decode cL_law 1280 = .ok (.istore 6, 2) := by decide +kernel
theorem dL_law_1282 : decode cL_law 1282 = .ok (.goto 475, 3) := by decide +kernel
theorem dL_law_1285 : decode cL_law 1285 = .ok (.aload_n 1, 1) := by decide +kernel
theorem dL_law_1286 : decode cL_law 1286 = .ok (.aload_n 0, 1) := by decide +kernel
theorem dL_law_1287 : decode cL_law 1287 = .ok (.iload 4, 2) := by decide +kernel
theorem dL_law_1289 : decode cL_law 1289 = .ok (.iconst 1, 1) := by decide +kernel
theorem dL_law_1290 : decode cL_law 1290 = .ok (.iadd, 1) := by decide +kernel
theorem dL_law_1291 : decode cL_law 1291 = .ok (.iaload, 1) := by decide +kernel
theorem dL_law_1292 : decode cL_law 1292 = .ok (.aload_n 0, 1) := by decide +kernel
theorem dL_law_1293 : decode cL_law 1293 = .ok (.iload 4, 2) := by decide +kernel
theorem dL_law_1295 : decode cL_law 1295 = .ok (.iconst 2, 1) := by decide +kernel
theorem dL_law_1296 : decode cL_law 1296 = .ok (.iadd, 1) := by decide +kernel
theorem dL_law_1297 : decode cL_law 1297 = .ok (.iaload, 1) := by decide +kernel
theorem dL_law_1298 : decode cL_law 1298 = .ok (.aload_n 3, 1) := by decide +kernel
theorem dL_law_1299 : decode cL_law 1299 = .ok (.invokestatic 229, 3) := by decide +kernel
theorem dL_law_1302 : decode cL_law 1302 = .ok (.istore 5, 2) := by decide +kernel
theorem dL_law_1304 : decode cL_law 1304 = .ok (.aload_n 2, 1) := by decide +kernel
theorem dL_law_1305 : decode cL_law 1305 = .ok (.aload_n 0, 1) := by decide +kernel
theorem dL_law_1306 : decode cL_law 1306 = .ok (.iload 4, 2) := by decide +kernel
theorem dL_law_1308 : decode cL_law 1308 = .ok (.iconst 1, 1) := by decide +kernel
theorem dL_law_1309 : decode cL_law 1309 = .ok (.iadd, 1) := by decide +kernel
theorem dL_law_1310 : decode cL_law 1310 = .ok (.iaload, 1) := by decide +kernel
theorem dL_law_1311 : decode cL_law 1311 = .ok (.aload_n 0, 1) := by decide +kernel
theorem dL_law_1312 : decode cL_law 1312 = .ok (.iload 4, 2) := by decide +kernel
theorem dL_law_1314 : decode cL_law 1314 = .ok (.iconst 2, 1) := by decide +kernel
theorem dL_law_1315 : decode cL_law 1315 = .ok (.iadd, 1) := by decide +kernel
theorem dL_law_1316 : decode cL_law 1316 = .ok (.iaload, 1) := by decide +kernel
theorem dL_law_1317 : decode cL_law 1317 = .ok (.invokevirtual 231, 3) := by decide +kernel
theorem dL_law_1320 : decode cL_law 1320 = .ok (.istore 6, 2) := by decide +kernel
theorem dL_law_1322 : decode cL_law 1322 = .ok (.goto 435, 3) := by decide +kernel
theorem dL_law_1325 : decode cL_law 1325 = .ok (.aload_n 1, 1) := by decide +kernel
theorem dL_law_1326 : decode cL_law 1326 = .ok (.aload_n 0, 1) := by decide +kernel
theorem dL_law_1327 : decode cL_law 1327 = .ok (.iload 4, 2) := by decide +kernel
theorem dL_law_1329 : decode cL_law 1329 = .ok (.iconst 1, 1) := by decide +kernel
theorem dL_law_1330 : decode cL_law 1330 = .ok (.iadd, 1) := by decide +kernel
theorem dL_law_1331 : decode cL_law 1331 = .ok (.iaload, 1) := by decide +kernel
theorem dL_law_1332 : decode cL_law 1332 = .ok (.aload_n 3, 1) := by decide +kernel
theorem dL_law_1333 : decode cL_law 1333 = .ok (.invokestatic 232, 3) := by decide +kernel
theorem dL_law_1336 : decode cL_law 1336 = .ok (.istore 5, 2) := by decide +kernel
theorem dL_law_1338 : decode cL_law 1338 = .ok (.aload_n 2, 1) := by decide +kernel
theorem dL_law_1339 : decode cL_law 1339 = .ok (.aload_n 0, 1) := by decide +kernel
theorem dL_law_1340 : decode cL_law 1340 = .ok (.iload 4, 2) := by decide +kernel
theorem dL_law_1342 : decode cL_law 1342 = .ok (.iconst 1, 1) := by decide +kernel
theorem dL_law_1343 : decode cL_law 1343 = .ok (.iadd, 1) := by decide +kernel
theorem dL_law_1344 : decode cL_law 1344 = .ok (.iaload, 1) := by decide +kernel
theorem dL_law_1345 : decode cL_law 1345 = .ok (.invokevirtual 234, 3) := by decide +kernel
theorem dL_law_1348 : decode cL_law 1348 = .ok (.istore 6, 2) := by decide +kernel
theorem dL_law_1350 : decode cL_law 1350 = .ok (.goto 407, 3) := by decide +kernel
theorem dL_law_1353 : decode cL_law 1353 = .ok (.aload_n 1, 1) := by decide +kernel
theorem dL_law_1354 : decode cL_law 1354 = .ok (.aload_n 0, 1) := by decide +kernel
theorem dL_law_1355 : decode cL_law 1355 = .ok (.iload 4, 2) := by decide +kernel
theorem dL_law_1357 : decode cL_law 1357 = .ok (.iconst 1, 1) := by decide +kernel
theorem dL_law_1358 : decode cL_law 1358 = .ok (.iadd, 1) := by decide +kernel
theorem dL_law_1359 : decode cL_law 1359 = .ok (.iaload, 1) := by decide +kernel
theorem dL_law_1360 : decode cL_law 1360 = .ok (.aload_n 0, 1) := by decide +kernel
theorem dL_law_1361 : decode cL_law 1361 = .ok (.iload 4, 2) := by decide +kernel
theorem dL_law_1363 : decode cL_law 1363 = .ok (.iconst 2, 1) := by decide +kernel
theorem dL_law_1364 : decode cL_law 1364 = .ok (.iadd, 1) := by decide +kernel
theorem dL_law_1365 : decode cL_law 1365 = .ok (.iaload, 1) := by decide +kernel
theorem dL_law_1366 : decode cL_law 1366 = .ok (.aload_n 3, 1) := by decide +kernel
theorem dL_law_1367 : decode cL_law 1367 = .ok (.invokestatic 235, 3) := by decide +kernel
theorem dL_law_1370 : decode cL_law 1370 = .ok (.istore 5, 2) := by decide +kernel
theorem dL_law_1372 : decode cL_law 1372 = .ok (.aload_n 2, 1) := by decide +kernel
theorem dL_law_1373 : decode cL_law 1373 = .ok (.aload_n 0, 1) := by decide +kernel
theorem dL_law_1374 : decode cL_law 1374 = .ok (.iload 4, 2) := by decide +kernel
theorem dL_law_1376 : decode cL_law 1376 = .ok (.iconst 1, 1) := by decide +kernel
theorem dL_law_1377 : decode cL_law 1377 = .ok (.iadd, 1) := by decide +kernel
theorem dL_law_1378 : decode cL_law 1378 = .ok (.iaload, 1) := by decide +kernel
theorem dL_law_1379 : decode cL_law 1379 = .ok (.aload_n 0, 1) := by decide +kernel
theorem dL_law_1380 : decode cL_law 1380 = .ok (.iload 4, 2) := by decide +kernel
theorem dL_law_1382 : decode cL_law 1382 = .ok (.iconst 2, 1) := by decide +kernel
theorem dL_law_1383 : decode cL_law 1383 = .ok (.iadd, 1) := by decide +kernel
theorem dL_law_1384 : decode cL_law 1384 = .ok (.iaload, 1) := by decide +kernel
theorem dL_law_1385 : decode cL_law 1385 = .ok (.invokevirtual 237, 3) := by decide +kernel
theorem dL_law_1388 : decode cL_law 1388 = .ok (.istore 6, 2) := by decide +kernel
theorem dL_law_1390 : decode cL_law 1390 = .ok (.goto 367, 3) := by decide +kernel
theorem dL_law_1393 : decode cL_law 1393 = .ok (.aload_n 1, 1) := by decide +kernel
theorem dL_law_1394 : decode cL_law 1394 = .ok (.aload_n 0, 1) := by decide +kernel
theorem dL_law_1395 : decode cL_law 1395 = .ok (.iload 4, 2) := by decide +kernel
theorem dL_law_1397 : decode cL_law 1397 = .ok (.iconst 1, 1) := by decide +kernel
theorem dL_law_1398 : decode cL_law 1398 = .ok (.iadd, 1) := by decide +kernel
theorem dL_law_1399 : decode cL_law 1399 = .ok (.iaload, 1) := by decide +kernel
theorem dL_law_1400 : decode cL_law 1400 = .ok (.aload_n 0, 1) := by decide +kernel
theorem dL_law_1401 : decode cL_law 1401 = .ok (.iload 4, 2) := by decide +kernel
theorem dL_law_1403 : decode cL_law 1403 = .ok (.iconst 2, 1) := by decide +kernel
theorem dL_law_1404 : decode cL_law 1404 = .ok (.iadd, 1) := by decide +kernel
theorem dL_law_1405 : decode cL_law 1405 = .ok (.iaload, 1) := by decide +kernel
theorem dL_law_1406 : decode cL_law 1406 = .ok (.aload_n 3, 1) := by decide +kernel
theorem dL_law_1407 : decode cL_law 1407 = .ok (.invokestatic 238, 3) := by decide +kernel
theorem dL_law_1410 : decode cL_law 1410 = .ok (.istore 5, 2) := by decide +kernel
theorem dL_law_1412 : decode cL_law 1412 = .ok (.aload_n 2, 1) := by decide +kernel
theorem dL_law_1413 : decode cL_law 1413 = .ok (.aload_n 0, 1) := by decide +kernel
theorem dL_law_1414 : decode cL_law 1414 = .ok (.iload 4, 2) := by decide +kernel
theorem dL_law_1416 : decode cL_law 1416 = .ok (.iconst 1, 1) := by decide +kernel
theorem dL_law_1417 : decode cL_law 1417 = .ok (.iadd, 1) := by decide +kernel
theorem dL_law_1418 : decode cL_law 1418 = .ok (.iaload, 1) := by decide +kernel
theorem dL_law_1419 : decode cL_law 1419 = .ok (.aload_n 0, 1) := by decide +kernel
theorem dL_law_1420 : decode cL_law 1420 = .ok (.iload 4, 2) := by decide +kernel
theorem dL_law_1422 : decode cL_law 1422 = .ok (.iconst 2, 1) := by decide +kernel
theorem dL_law_1423 : decode cL_law 1423 = .ok (.iadd, 1) := by decide +kernel
theorem dL_law_1424 : decode cL_law 1424 = .ok (.iaload, 1) := by decide +kernel
theorem dL_law_1425 : decode cL_law 1425 = .ok (.invokevirtual 240, 3) := by decide +kernel
theorem dL_law_1428 : decode cL_law 1428 = .ok (.istore 6, 2) := by decide +kernel
theorem dL_law_1430 : decode cL_law 1430 = .ok (.goto 327, 3) := by decide +kernel
theorem dL_law_1433 : decode cL_law 1433 = .ok (.aload_n 1, 1) := by decide +kernel
theorem dL_law_1434 : decode cL_law 1434 = .ok (.aload_n 0, 1) := by decide +kernel
theorem dL_law_1435 : decode cL_law 1435 = .ok (.iload 4, 2) := by decide +kernel
theorem dL_law_1437 : decode cL_law 1437 = .ok (.iconst 1, 1) := by decide +kernel
theorem dL_law_1438 : decode cL_law 1438 = .ok (.iadd, 1) := by decide +kernel
theorem dL_law_1439 : decode cL_law 1439 = .ok (.iaload, 1) := by decide +kernel
theorem dL_law_1440 : decode cL_law 1440 = .ok (.aload_n 3, 1) := by decide +kernel
theorem dL_law_1441 : decode cL_law 1441 = .ok (.invokestatic 241, 3) := by decide +kernel
theorem dL_law_1444 : decode cL_law 1444 = .ok (.istore 5, 2) := by decide +kernel
theorem dL_law_1446 : decode cL_law 1446 = .ok (.aload_n 2, 1) := by decide +kernel
theorem dL_law_1447 : decode cL_law 1447 = .ok (.aload_n 0, 1) := by decide +kernel
theorem dL_law_1448 : decode cL_law 1448 = .ok (.iload 4, 2) := by decide +kernel
theorem dL_law_1450 : decode cL_law 1450 = .ok (.iconst 1, 1) := by decide +kernel
theorem dL_law_1451 : decode cL_law 1451 = .ok (.iadd, 1) := by decide +kernel
theorem dL_law_1452 : decode cL_law 1452 = .ok (.iaload, 1) := by decide +kernel
theorem dL_law_1453 : decode cL_law 1453 = .ok (.invokevirtual 243, 3) := by decide +kernel
theorem dL_law_1456 : decode cL_law 1456 = .ok (.istore 6, 2) := by decide +kernel
theorem dL_law_1458 : decode cL_law 1458 = .ok (.goto 299, 3) := by decide +kernel
theorem dL_law_1461 : decode cL_law 1461 = .ok (.aload_n 1, 1) := by decide +kernel
theorem dL_law_1462 : decode cL_law 1462 = .ok (.aload_n 0, 1) := by decide +kernel
theorem dL_law_1463 : decode cL_law 1463 = .ok (.iload 4, 2) := by decide +kernel
theorem dL_law_1465 : decode cL_law 1465 = .ok (.iconst 1, 1) := by decide +kernel
theorem dL_law_1466 : decode cL_law 1466 = .ok (.iadd, 1) := by decide +kernel
theorem dL_law_1467 : decode cL_law 1467 = .ok (.iaload, 1) := by decide +kernel
theorem dL_law_1468 : decode cL_law 1468 = .ok (.aload_n 3, 1) := by decide +kernel
theorem dL_law_1469 : decode cL_law 1469 = .ok (.invokestatic 244, 3) := by decide +kernel
theorem dL_law_1472 : decode cL_law 1472 = .ok (.istore 5, 2) := by decide +kernel
theorem dL_law_1474 : decode cL_law 1474 = .ok (.aload_n 2, 1) := by decide +kernel
theorem dL_law_1475 : decode cL_law 1475 = .ok (.aload_n 0, 1) := by decide +kernel
theorem dL_law_1476 : decode cL_law 1476 = .ok (.iload 4, 2) := by decide +kernel
theorem dL_law_1478 : decode cL_law 1478 = .ok (.iconst 1, 1) := by decide +kernel
theorem dL_law_1479 : decode cL_law 1479 = .ok (.iadd, 1) := by decide +kernel
theorem dL_law_1480 : decode cL_law 1480 = .ok (.iaload, 1) := by decide +kernel
theorem dL_law_1481 : decode cL_law 1481 = .ok (.invokevirtual 246, 3) := by decide +kernel
theorem dL_law_1484 : decode cL_law 1484 = .ok (.astore 6, 2) := by decide +kernel
theorem dL_law_1486 : decode cL_law 1486 = .ok (.goto 271, 3) := by decide +kernel
theorem dL_law_1489 : decode cL_law 1489 = .ok (.aload_n 1, 1) := by decide +kernel
theorem dL_law_1490 : decode cL_law 1490 = .ok (.aload_n 0, 1) := by decide +kernel
theorem dL_law_1491 : decode cL_law 1491 = .ok (.iload 4, 2) := by decide +kernel
theorem dL_law_1493 : decode cL_law 1493 = .ok (.iconst 1, 1) := by decide +kernel
theorem dL_law_1494 : decode cL_law 1494 = .ok (.iadd, 1) := by decide +kernel
theorem dL_law_1495 : decode cL_law 1495 = .ok (.iaload, 1) := by decide +kernel
theorem dL_law_1496 : decode cL_law 1496 = .ok (.aload_n 3, 1) := by decide +kernel
theorem dL_law_1497 : decode cL_law 1497 = .ok (.invokestatic 247, 3) := by decide +kernel
theorem dL_law_1500 : decode cL_law 1500 = .ok (.istore 5, 2) := by decide +kernel
theorem dL_law_1502 : decode cL_law 1502 = .ok (.aload_n 2, 1) := by decide +kernel
theorem dL_law_1503 : decode cL_law 1503 = .ok (.aload_n 0, 1) := by decide +kernel
theorem dL_law_1504 : decode cL_law 1504 = .ok (.iload 4, 2) := by decide +kernel
theorem dL_law_1506 : decode cL_law 1506 = .ok (.iconst 1, 1) := by decide +kernel
theorem dL_law_1507 : decode cL_law 1507 = .ok (.iadd, 1) := by decide +kernel
theorem dL_law_1508 : decode cL_law 1508 = .ok (.iaload, 1) := by decide +kernel
theorem dL_law_1509 : decode cL_law 1509 = .ok (.invokevirtual 249, 3) := by decide +kernel
theorem dL_law_1512 : decode cL_law 1512 = .ok (.astore 6, 2) := by decide +kernel
theorem dL_law_1514 : decode cL_law 1514 = .ok (.goto 243, 3) := by decide +kernel
theorem dL_law_1517 : decode cL_law 1517 = .ok (.aload_n 1, 1) := by decide +kernel
theorem dL_law_1518 : decode cL_law 1518 = .ok (.aload_n 0, 1) := by decide +kernel
theorem dL_law_1519 : decode cL_law 1519 = .ok (.iload 4, 2) := by decide +kernel
theorem dL_law_1521 : decode cL_law 1521 = .ok (.iconst 1, 1) := by decide +kernel
theorem dL_law_1522 : decode cL_law 1522 = .ok (.iadd, 1) := by decide +kernel
theorem dL_law_1523 : decode cL_law 1523 = .ok (.iaload, 1) := by decide +kernel
theorem dL_law_1524 : decode cL_law 1524 = .ok (.aload_n 3, 1) := by decide +kernel
theorem dL_law_1525 : decode cL_law 1525 = .ok (.invokestatic 250, 3) := by decide +kernel
theorem dL_law_1528 : decode cL_law 1528 = .ok (.istore 5, 2) := by decide +kernel
theorem dL_law_1530 : decode cL_law 1530 = .ok (.aload_n 2, 1) := by decide +kernel
theorem dL_law_1531 : decode cL_law 1531 = .ok (.aload_n 0, 1) := by decide +kernel
theorem dL_law_1532 : decode cL_law 1532 = .ok (.iload 4, 2) := by decide +kernel
theorem dL_law_1534 : decode cL_law 1534 = .ok (.iconst 1, 1) := by decide +kernel
theorem dL_law_1535 : decode cL_law 1535 = .ok (.iadd, 1) := by decide +kernel
theorem dL_law_1536 : decode cL_law 1536 = .ok (.iaload, 1) := by decide +kernel
theorem dL_law_1537 : decode cL_law 1537 = .ok (.invokevirtual 252, 3) := by decide +kernel
theorem dL_law_1540 : decode cL_law 1540 = .ok (.astore 6, 2) := by decide +kernel
theorem dL_law_1542 : decode cL_law 1542 = .ok (.goto 215, 3) := by decide +kernel
set_option maxRecDepth 20000 in
theorem lc_lay {X : zX} (C : z_C X cL_law RL 7 room_1) (h_st : (z_l X).stackTraces = false) {b L : Nat} {xs : Nat → Int32} (hX : va_X b L xs (z_s X) (z_s X).heap) (hbl : b < (z_s X).heap.size) (hbA : ¬ z_F X b) {jx : Nat} {a1 a2 a3 a4 : Int32} (hs1 : vp_in (nI (5 * jx) + 1) L ∧ xs (nI (5 * jx) + 1).toNatClampNeg = a1) (hs2 : vp_in (nI (5 * jx) + 2) L ∧ xs (nI (5 * jx) + 2).toNatClampNeg = a2) (hs3 : vp_in (nI (5 * jx) + 3) L ∧ xs (nI (5 * jx) + 3).toNatClampNeg = a3) (hs4 : vp_in (nI (5 * jx) + 4) L ∧ xs (nI (5 * jx) + 4).toNatClampNeg = a4) {u : sS} {x pa sp ln rf sb m pn td ou : Nat} {th : Int32} {on : Int64} {Mw : zM} (hI : s_LX (z_G X) x pa sp ln rf sb m pn td ou u u th on Mw) (hok : s_ok jx u) (hj : jx < 64) {kq nq : Nat} (hkq : kq + 4000 ≤ 600128) (hnq : nq + 60000 ≤ 7301098) (kk : ∀ v th on Mz, s_LX (z_G X) x pa sp ln rf sb m pn td ou v v th on Mz → s_ok (jx + 1) v → z_W X Mz (kq + 4000) (nq + 60000) 27 [(4, .int (nI (5 * (jx + 1)))), (0, .ref b), (1, .ref x), (2, .ref m), (3, .ref ou)] []) : z_W X Mw kq nq 1165 [(4, .int (nI (5 * jx))), (0, .ref b), (1, .ref x), (2, .ref m), (3, .ref ou)] [] := by
  refine z_aload_n C dL_law_1165 rfl 2 rfl ?_
  refine z_aload_n C dL_law_1166 rfl 1 rfl ?_
  refine z_iload C dL_law_1167 0 rfl ?_
  refine z_iconst C (v := 1) dL_law_1169 (by decide) ?_
  refine z_iadd C dL_law_1170 ?_
  refine z_sld C hX hbl hbA hs1.1 hs1.2 dL_law_1171 ?_
  refine z_aload_n C dL_law_1172 rfl 1 rfl ?_
  refine z_iload C dL_law_1173 0 rfl ?_
  refine z_iconst C (v := 2) dL_law_1175 (by decide) ?_
  refine z_iadd C dL_law_1176 ?_
  refine z_sld C hX hbl hbA hs2.1 hs2.2 dL_law_1177 ?_
  refine z_aload_n C dL_law_1178 rfl 4 rfl ?_
  refine z_callHi (rest := []) (k' := kq + 8) (n' := nq + 48) C (s_LX_P hI (fun hC9 hd9 ho9 => w_lay (z_l X) h_st hC9 hd9 ho9 hok a1 a2)) (ch_lay C ⟨Nat.le_of_ble_eq_true rfl, Nat.le_of_ble_eq_true rfl⟩) rfl rfl (Nat.le_of_ble_eq_true rfl) rfl rfl (by show _ ≤ 600128; omega) (by show _ ≤ 7301098; omega) dL_law_1179 (fun xk M1 hq => ?_)
  obtain ⟨hk1, on1, hI1, ho1⟩ := hq
  refine z_istore (lv' := [(5, .int xk), (4, .int (nI (5 * jx))), (0, .ref b), (1, .ref x), (2, .ref m), (3, .ref ou)]) C dL_law_1182 (by decide) rfl ?_
  refine z_aload_n C dL_law_1184 rfl 4 rfl ?_
  refine z_aload_n C dL_law_1185 rfl 2 rfl ?_
  refine z_iload C dL_law_1186 1 rfl ?_
  refine z_iconst C (v := 1) dL_law_1188 (by decide) ?_
  refine z_iadd C dL_law_1189 ?_
  refine z_sld C hX hbl hbA hs1.1 hs1.2 dL_law_1190 ?_
  refine z_aload_n C dL_law_1191 rfl 2 rfl ?_
  refine z_iload C dL_law_1192 1 rfl ?_
  refine z_iconst C (v := 2) dL_law_1194 (by decide) ?_
  refine z_iadd C dL_law_1195 ?_
  refine z_sld C hX hbl hbA hs2.1 hs2.2 dL_law_1196 ?_
  obtain ⟨tp9, hm9⟩ := s_LX_m hI1
  refine z_callVi (rest := []) (k' := kq + 8) (n' := nq + 48) C (s_LX_R hI1 (fun hR9 => a_X5_lay (z_l X) hR9 hok (by omega) a1 a2)) (cs_L_222 C ⟨Nat.le_of_ble_eq_true rfl, Nat.le_of_ble_eq_true rfl⟩) hm9 rfl rfl rfl rfl (Nat.le_of_ble_eq_true rfl) rfl rfl (by show _ ≤ 600128; omega) (by show _ ≤ 7301098; omega) dL_law_1197 (fun xr M2 hq => ?_)
  obtain ⟨hI2, hr2⟩ := hq
  refine z_istore (lv' := [(6, .int xr), (5, .int xk), (4, .int (nI (5 * jx))), (0, .ref b), (1, .ref x), (2, .ref m), (3, .ref ou)]) C dL_law_1200 (by decide) rfl ?_
  refine z_goto C (tgt := 1757) dL_law_1202 (by decide) ?_
  refine z_iinc (v := nI (5 * (jx + 1))) (lv' := [(4, .int (nI (5 * (jx + 1)))), (6, .int xr), (5, .int xk), (0, .ref b), (1, .ref x), (2, .ref m), (3, .ref ou)]) C dL_law_1757 2 rfl (j_inc5 jx) (by decide) rfl ?_
  refine z_goto C (tgt := 27) dL_law_1760 (by decide) ?_
  refine z_fewer [0, 3, 4, 5, 6] rfl ?_
  refine z_widen (k' := kq + 4000) (n' := nq + 60000) (by omega) (by omega) ?_
  exact kk _ _ _ _ hI2 (so_lay hok)
set_option maxRecDepth 20000 in
theorem lc_reach {X : zX} (C : z_C X cL_law RL 7 room_1) (h_st : (z_l X).stackTraces = false) {b L : Nat} {xs : Nat → Int32} (hX : va_X b L xs (z_s X) (z_s X).heap) (hbl : b < (z_s X).heap.size) (hbA : ¬ z_F X b) {jx : Nat} {a1 a2 a3 a4 : Int32} (hs1 : vp_in (nI (5 * jx) + 1) L ∧ xs (nI (5 * jx) + 1).toNatClampNeg = a1) (hs2 : vp_in (nI (5 * jx) + 2) L ∧ xs (nI (5 * jx) + 2).toNatClampNeg = a2) (hs3 : vp_in (nI (5 * jx) + 3) L ∧ xs (nI (5 * jx) + 3).toNatClampNeg = a3) (hs4 : vp_in (nI (5 * jx) + 4) L ∧ xs (nI (5 * jx) + 4).toNatClampNeg = a4) {u : sS} {x pa sp ln rf sb m pn td ou : Nat} {th : Int32} {on : Int64} {Mw : zM} (hI : s_LX (z_G X) x pa sp ln rf sb m pn td ou u u th on Mw) (hok : s_ok jx u) (hj : jx < 64) {kq nq : Nat} (hkq : kq + 4000 ≤ 600128) (hnq : nq + 60000 ≤ 7301098) (kk : ∀ v th on Mz, s_LX (z_G X) x pa sp ln rf sb m pn td ou v v th on Mz → s_ok (jx + 1) v → z_W X Mz (kq + 4000) (nq + 60000) 27 [(4, .int (nI (5 * (jx + 1)))), (0, .ref b), (1, .ref x), (2, .ref m), (3, .ref ou)] []) : z_W X Mw kq nq 1205 [(4, .int (nI (5 * jx))), (0, .ref b), (1, .ref x), (2, .ref m), (3, .ref ou)] [] := by
  refine z_aload_n C dL_law_1205 rfl 2 rfl ?_
  refine z_aload_n C dL_law_1206 rfl 1 rfl ?_
  refine z_iload C dL_law_1207 0 rfl ?_
  refine z_iconst C (v := 1) dL_law_1209 (by decide) ?_
  refine z_iadd C dL_law_1210 ?_
  refine z_sld C hX hbl hbA hs1.1 hs1.2 dL_law_1211 ?_
  refine z_aload_n C dL_law_1212 rfl 1 rfl ?_
  refine z_iload C dL_law_1213 0 rfl ?_
  refine z_iconst C (v := 2) dL_law_1215 (by decide) ?_
  refine z_iadd C dL_law_1216 ?_
  refine z_sld C hX hbl hbA hs2.1 hs2.2 dL_law_1217 ?_
  refine z_aload_n C dL_law_1218 rfl 1 rfl ?_
  refine z_iload C dL_law_1219 0 rfl ?_
  refine z_iconst C (v := 3) dL_law_1221 (by decide) ?_
  refine z_iadd C dL_law_1222 ?_
  refine z_sld C hX hbl hbA hs3.1 hs3.2 dL_law_1223 ?_
  refine z_aload_n C dL_law_1224 rfl 4 rfl ?_
  refine z_callHi (rest := []) (k' := kq + 8) (n' := nq + 48) C (s_LX_P hI (fun hC9 hd9 ho9 => w_reach (z_l X) h_st hC9 hd9 ho9 hok a1 a2 a3)) (ch_reach C ⟨Nat.le_of_ble_eq_true rfl, Nat.le_of_ble_eq_true rfl⟩) rfl rfl (Nat.le_of_ble_eq_true rfl) rfl rfl (by show _ ≤ 600128; omega) (by show _ ≤ 7301098; omega) dL_law_1225 (fun xk M1 hq => ?_)
  obtain ⟨hk1, on1, hI1, ho1⟩ := hq
  refine z_istore (lv' := [(5, .int xk), (4, .int (nI (5 * jx))), (0, .ref b), (1, .ref x), (2, .ref m), (3, .ref ou)]) C dL_law_1228 (by decide) rfl ?_
  refine z_aload_n C dL_law_1230 rfl 4 rfl ?_
  refine z_aload_n C dL_law_1231 rfl 2 rfl ?_
  refine z_iload C dL_law_1232 1 rfl ?_
  refine z_iconst C (v := 1) dL_law_1234 (by decide) ?_
  refine z_iadd C dL_law_1235 ?_
  refine z_sld C hX hbl hbA hs1.1 hs1.2 dL_law_1236 ?_
  refine z_aload_n C dL_law_1237 rfl 2 rfl ?_
  refine z_iload C dL_law_1238 1 rfl ?_
  refine z_iconst C (v := 2) dL_law_1240 (by decide) ?_
  refine z_iadd C dL_law_1241 ?_
  refine z_sld C hX hbl hbA hs2.1 hs2.2 dL_law_1242 ?_
  refine z_aload_n C dL_law_1243 rfl 2 rfl ?_
  refine z_iload C dL_law_1244 1 rfl ?_
  refine z_iconst C (v := 3) dL_law_1246 (by decide) ?_
  refine z_iadd C dL_law_1247 ?_
  refine z_sld C hX hbl hbA hs3.1 hs3.2 dL_law_1248 ?_
  obtain ⟨tp9, hm9⟩ := s_LX_m hI1
  refine z_callVi (rest := []) (k' := kq + 8) (n' := nq + 48) C (s_LX_R hI1 (fun hR9 => a_X5_reach (z_l X) hR9 hok (by omega) a1 a2 a3)) (cs_L_225 C ⟨Nat.le_of_ble_eq_true rfl, Nat.le_of_ble_eq_true rfl⟩) hm9 rfl rfl rfl rfl (Nat.le_of_ble_eq_true rfl) rfl rfl (by show _ ≤ 600128; omega) (by show _ ≤ 7301098; omega) dL_law_1249 (fun xr M2 hq => ?_)
  obtain ⟨hI2, hr2⟩ := hq
  refine z_istore (lv' := [(6, .int xr), (5, .int xk), (4, .int (nI (5 * jx))), (0, .ref b), (1, .ref x), (2, .ref m), (3, .ref ou)]) C dL_law_1252 (by decide) rfl ?_
  refine z_goto C (tgt := 1757) dL_law_1254 (by decide) ?_
  refine z_iinc (v := nI (5 * (jx + 1))) (lv' := [(4, .int (nI (5 * (jx + 1)))), (6, .int xr), (5, .int xk), (0, .ref b), (1, .ref x), (2, .ref m), (3, .ref ou)]) C dL_law_1757 2 rfl (j_inc5 jx) (by decide) rfl ?_
  refine z_goto C (tgt := 27) dL_law_1760 (by decide) ?_
  refine z_fewer [0, 3, 4, 5, 6] rfl ?_
  refine z_widen (k' := kq + 4000) (n' := nq + 60000) (by omega) (by omega) ?_
  exact kk _ _ _ _ hI2 (so_reach hok)
set_option maxRecDepth 20000 in
theorem lc_get {X : zX} (C : z_C X cL_law RL 7 room_1) (h_st : (z_l X).stackTraces = false) {b L : Nat} {xs : Nat → Int32} (hX : va_X b L xs (z_s X) (z_s X).heap) (hbl : b < (z_s X).heap.size) (hbA : ¬ z_F X b) {jx : Nat} {a1 a2 a3 a4 : Int32} (hs1 : vp_in (nI (5 * jx) + 1) L ∧ xs (nI (5 * jx) + 1).toNatClampNeg = a1) (hs2 : vp_in (nI (5 * jx) + 2) L ∧ xs (nI (5 * jx) + 2).toNatClampNeg = a2) (hs3 : vp_in (nI (5 * jx) + 3) L ∧ xs (nI (5 * jx) + 3).toNatClampNeg = a3) (hs4 : vp_in (nI (5 * jx) + 4) L ∧ xs (nI (5 * jx) + 4).toNatClampNeg = a4) {u : sS} {x pa sp ln rf sb m pn td ou : Nat} {th : Int32} {on : Int64} {Mw : zM} (hI : s_LX (z_G X) x pa sp ln rf sb m pn td ou u u th on Mw) (hok : s_ok jx u) (hj : jx < 64) {kq nq : Nat} (hkq : kq + 4000 ≤ 600128) (hnq : nq + 60000 ≤ 7301098) (kk : ∀ v th on Mz, s_LX (z_G X) x pa sp ln rf sb m pn td ou v v th on Mz → s_ok (jx + 1) v → z_W X Mz (kq + 4000) (nq + 60000) 27 [(4, .int (nI (5 * (jx + 1)))), (0, .ref b), (1, .ref x), (2, .ref m), (3, .ref ou)] []) : z_W X Mw kq nq 1257 [(4, .int (nI (5 * jx))), (0, .ref b), (1, .ref x), (2, .ref m), (3, .ref ou)] [] := by
  refine z_aload_n C dL_law_1257 rfl 2 rfl ?_
  refine z_aload_n C dL_law_1258 rfl 1 rfl ?_
  refine z_iload C dL_law_1259 0 rfl ?_
  refine z_iconst C (v := 1) dL_law_1261 (by decide) ?_
  refine z_iadd C dL_law_1262 ?_
  refine z_sld C hX hbl hbA hs1.1 hs1.2 dL_law_1263 ?_
  refine z_aload_n C dL_law_1264 rfl 4 rfl ?_
  refine z_callHi (rest := []) (k' := kq + 8) (n' := nq + 48) C (s_LX_P hI (fun hC9 hd9 ho9 => w_get (z_l X) h_st hC9 hd9 ho9 hok a1)) (ch_get C ⟨Nat.le_of_ble_eq_true rfl, Nat.le_of_ble_eq_true rfl⟩) rfl rfl (Nat.le_of_ble_eq_true rfl) rfl rfl (by show _ ≤ 600128; omega) (by show _ ≤ 7301098; omega) dL_law_1265 (fun xk M1 hq => ?_)
  obtain ⟨hk1, on1, hI1, ho1⟩ := hq
  refine z_istore (lv' := [(5, .int xk), (4, .int (nI (5 * jx))), (0, .ref b), (1, .ref x), (2, .ref m), (3, .ref ou)]) C dL_law_1268 (by decide) rfl ?_
  refine z_aload_n C dL_law_1270 rfl 4 rfl ?_
  refine z_aload_n C dL_law_1271 rfl 2 rfl ?_
  refine z_iload C dL_law_1272 1 rfl ?_
  refine z_iconst C (v := 1) dL_law_1274 (by decide) ?_
  refine z_iadd C dL_law_1275 ?_
  refine z_sld C hX hbl hbA hs1.1 hs1.2 dL_law_1276 ?_
  obtain ⟨tp9, hm9⟩ := s_LX_m hI1
  refine z_callVi (rest := []) (k' := kq + 8) (n' := nq + 48) C (s_LX_R hI1 (fun hR9 => a_X5_get (z_l X) hR9 hok (by omega) a1)) (cs_L_228 C ⟨Nat.le_of_ble_eq_true rfl, Nat.le_of_ble_eq_true rfl⟩) hm9 rfl rfl rfl rfl (Nat.le_of_ble_eq_true rfl) rfl rfl (by show _ ≤ 600128; omega) (by show _ ≤ 7301098; omega) dL_law_1277 (fun xr M2 hq => ?_)
  obtain ⟨hI2, hr2⟩ := hq
  refine z_istore (lv' := [(6, .int xr), (5, .int xk), (4, .int (nI (5 * jx))), (0, .ref b), (1, .ref x), (2, .ref m), (3, .ref ou)]) C dL_law_1280 (by decide) rfl ?_
  refine z_goto C (tgt := 1757) dL_law_1282 (by decide) ?_
  refine z_iinc (v := nI (5 * (jx + 1))) (lv' := [(4, .int (nI (5 * (jx + 1)))), (6, .int xr), (5, .int xk), (0, .ref b), (1, .ref x), (2, .ref m), (3, .ref ou)]) C dL_law_1757 2 rfl (j_inc5 jx) (by decide) rfl ?_
  refine z_goto C (tgt := 27) dL_law_1760 (by decide) ?_
  refine z_fewer [0, 3, 4, 5, 6] rfl ?_
  refine z_widen (k' := kq + 4000) (n' := nq + 60000) (by omega) (by omega) ?_
  exact kk _ _ _ _ hI2 (so_get hok)
set_option maxRecDepth 20000 in
theorem lc_drain {X : zX} (C : z_C X cL_law RL 7 room_1) (h_st : (z_l X).stackTraces = false) {b L : Nat} {xs : Nat → Int32} (hX : va_X b L xs (z_s X) (z_s X).heap) (hbl : b < (z_s X).heap.size) (hbA : ¬ z_F X b) {jx : Nat} {a1 a2 a3 a4 : Int32} (hs1 : vp_in (nI (5 * jx) + 1) L ∧ xs (nI (5 * jx) + 1).toNatClampNeg = a1) (hs2 : vp_in (nI (5 * jx) + 2) L ∧ xs (nI (5 * jx) + 2).toNatClampNeg = a2) (hs3 : vp_in (nI (5 * jx) + 3) L ∧ xs (nI (5 * jx) + 3).toNatClampNeg = a3) (hs4 : vp_in (nI (5 * jx) + 4) L ∧ xs (nI (5 * jx) + 4).toNatClampNeg = a4) {u : sS} {x pa sp ln rf sb m pn td ou : Nat} {th : Int32} {on : Int64} {Mw : zM} (hI : s_LX (z_G X) x pa sp ln rf sb m pn td ou u u th on Mw) (hok : s_ok jx u) (hj : jx < 64) {kq nq : Nat} (hkq : kq + 4000 ≤ 600128) (hnq : nq + 60000 ≤ 7301098) (kk : ∀ v th on Mz, s_LX (z_G X) x pa sp ln rf sb m pn td ou v v th on Mz → s_ok (jx + 1) v → z_W X Mz (kq + 4000) (nq + 60000) 27 [(4, .int (nI (5 * (jx + 1)))), (0, .ref b), (1, .ref x), (2, .ref m), (3, .ref ou)] []) : z_W X Mw kq nq 1285 [(4, .int (nI (5 * jx))), (0, .ref b), (1, .ref x), (2, .ref m), (3, .ref ou)] [] := by
  refine z_aload_n C dL_law_1285 rfl 2 rfl ?_
  refine z_aload_n C dL_law_1286 rfl 1 rfl ?_
  refine z_iload C dL_law_1287 0 rfl ?_
  refine z_iconst C (v := 1) dL_law_1289 (by decide) ?_
  refine z_iadd C dL_law_1290 ?_
  refine z_sld C hX hbl hbA hs1.1 hs1.2 dL_law_1291 ?_
  refine z_aload_n C dL_law_1292 rfl 1 rfl ?_
  refine z_iload C dL_law_1293 0 rfl ?_
  refine z_iconst C (v := 2) dL_law_1295 (by decide) ?_
  refine z_iadd C dL_law_1296 ?_
  refine z_sld C hX hbl hbA hs2.1 hs2.2 dL_law_1297 ?_
  refine z_aload_n C dL_law_1298 rfl 4 rfl ?_
  refine z_callHi (rest := []) (k' := kq + 8) (n' := nq + 48) C (s_LX_P hI (fun hC9 hd9 ho9 => w_drain (z_l X) h_st hC9 hd9 ho9 hok a1 a2)) (ch_drain C ⟨Nat.le_of_ble_eq_true rfl, Nat.le_of_ble_eq_true rfl⟩) rfl rfl (Nat.le_of_ble_eq_true rfl) rfl rfl (by show _ ≤ 600128; omega) (by show _ ≤ 7301098; omega) dL_law_1299 (fun xk M1 hq => ?_)
  obtain ⟨hk1, on1, hI1, ho1⟩ := hq
  refine z_istore (lv' := [(5, .int xk), (4, .int (nI (5 * jx))), (0, .ref b), (1, .ref x), (2, .ref m), (3, .ref ou)]) C dL_law_1302 (by decide) rfl ?_
  refine z_aload_n C dL_law_1304 rfl 4 rfl ?_
  refine z_aload_n C dL_law_1305 rfl 2 rfl ?_
  refine z_iload C dL_law_1306 1 rfl ?_
  refine z_iconst C (v := 1) dL_law_1308 (by decide) ?_
  refine z_iadd C dL_law_1309 ?_
  refine z_sld C hX hbl hbA hs1.1 hs1.2 dL_law_1310 ?_
  refine z_aload_n C dL_law_1311 rfl 2 rfl ?_
  refine z_iload C dL_law_1312 1 rfl ?_
  refine z_iconst C (v := 2) dL_law_1314 (by decide) ?_
  refine z_iadd C dL_law_1315 ?_
  refine z_sld C hX hbl hbA hs2.1 hs2.2 dL_law_1316 ?_
  obtain ⟨tp9, hm9⟩ := s_LX_m hI1
  refine z_callVi (rest := []) (k' := kq + 8) (n' := nq + 48) C (s_LX_R hI1 (fun hR9 => a_X5_drain (z_l X) hR9 hok (by omega) a1 a2)) (cs_L_231 C ⟨Nat.le_of_ble_eq_true rfl, Nat.le_of_ble_eq_true rfl⟩) hm9 rfl rfl rfl rfl (Nat.le_of_ble_eq_true rfl) rfl rfl (by show _ ≤ 600128; omega) (by show _ ≤ 7301098; omega) dL_law_1317 (fun xr M2 hq => ?_)
  obtain ⟨hI2, hr2⟩ := hq
  refine z_istore (lv' := [(6, .int xr), (5, .int xk), (4, .int (nI (5 * jx))), (0, .ref b), (1, .ref x), (2, .ref m), (3, .ref ou)]) C dL_law_1320 (by decide) rfl ?_
  refine z_goto C (tgt := 1757) dL_law_1322 (by decide) ?_
  refine z_iinc (v := nI (5 * (jx + 1))) (lv' := [(4, .int (nI (5 * (jx + 1)))), (6, .int xr), (5, .int xk), (0, .ref b), (1, .ref x), (2, .ref m), (3, .ref ou)]) C dL_law_1757 2 rfl (j_inc5 jx) (by decide) rfl ?_
  refine z_goto C (tgt := 27) dL_law_1760 (by decide) ?_
  refine z_fewer [0, 3, 4, 5, 6] rfl ?_
  refine z_widen (k' := kq + 4000) (n' := nq + 60000) (by omega) (by omega) ?_
  exact kk _ _ _ _ hI2 (so_drain hok)
set_option maxRecDepth 20000 in
theorem lc_pop {X : zX} (C : z_C X cL_law RL 7 room_1) (h_st : (z_l X).stackTraces = false) {b L : Nat} {xs : Nat → Int32} (hX : va_X b L xs (z_s X) (z_s X).heap) (hbl : b < (z_s X).heap.size) (hbA : ¬ z_F X b) {jx : Nat} {a1 a2 a3 a4 : Int32} (hs1 : vp_in (nI (5 * jx) + 1) L ∧ xs (nI (5 * jx) + 1).toNatClampNeg = a1) (hs2 : vp_in (nI (5 * jx) + 2) L ∧ xs (nI (5 * jx) + 2).toNatClampNeg = a2) (hs3 : vp_in (nI (5 * jx) + 3) L ∧ xs (nI (5 * jx) + 3).toNatClampNeg = a3) (hs4 : vp_in (nI (5 * jx) + 4) L ∧ xs (nI (5 * jx) + 4).toNatClampNeg = a4) {u : sS} {x pa sp ln rf sb m pn td ou : Nat} {th : Int32} {on : Int64} {Mw : zM} (hI : s_LX (z_G X) x pa sp ln rf sb m pn td ou u u th on Mw) (hok : s_ok jx u) (hj : jx < 64) {kq nq : Nat} (hkq : kq + 4000 ≤ 600128) (hnq : nq + 60000 ≤ 7301098) (kk : ∀ v th on Mz, s_LX (z_G X) x pa sp ln rf sb m pn td ou v v th on Mz → s_ok (jx + 1) v → z_W X Mz (kq + 4000) (nq + 60000) 27 [(4, .int (nI (5 * (jx + 1)))), (0, .ref b), (1, .ref x), (2, .ref m), (3, .ref ou)] []) : z_W X Mw kq nq 1325 [(4, .int (nI (5 * jx))), (0, .ref b), (1, .ref x), (2, .ref m), (3, .ref ou)] [] := by
  refine z_aload_n C dL_law_1325 rfl 2 rfl ?_
  refine z_aload_n C dL_law_1326 rfl 1 rfl ?_
  refine z_iload C dL_law_1327 0 rfl ?_
  refine z_iconst C (v := 1) dL_law_1329 (by decide) ?_
  refine z_iadd C dL_law_1330 ?_
  refine z_sld C hX hbl hbA hs1.1 hs1.2 dL_law_1331 ?_
  refine z_aload_n C dL_law_1332 rfl 4 rfl ?_
  refine z_callHi (rest := []) (k' := kq + 8) (n' := nq + 48) C (s_LX_P hI (fun hC9 hd9 ho9 => w_pop (z_l X) h_st hC9 hd9 ho9 hok a1)) (ch_pop C ⟨Nat.le_of_ble_eq_true rfl, Nat.le_of_ble_eq_true rfl⟩) rfl rfl (Nat.le_of_ble_eq_true rfl) rfl rfl (by show _ ≤ 600128; omega) (by show _ ≤ 7301098; omega) dL_law_1333 (fun xk M1 hq => ?_)
  obtain ⟨hk1, on1, hI1, ho1⟩ := hq
  refine z_istore (lv' := [(5, .int xk), (4, .int (nI (5 * jx))), (0, .ref b), (1, .ref x), (2, .ref m), (3, .ref ou)]) C dL_law_1336 (by decide) rfl ?_
  refine z_aload_n C dL_law_1338 rfl 4 rfl ?_
  refine z_aload_n C dL_law_1339 rfl 2 rfl ?_
  refine z_iload C dL_law_1340 1 rfl ?_
  refine z_iconst C (v := 1) dL_law_1342 (by decide) ?_
  refine z_iadd C dL_law_1343 ?_
  refine z_sld C hX hbl hbA hs1.1 hs1.2 dL_law_1344 ?_
  obtain ⟨tp9, hm9⟩ := s_LX_m hI1
  refine z_callVi (rest := []) (k' := kq + 8) (n' := nq + 48) C (s_LX_R hI1 (fun hR9 => a_X5_pop (z_l X) hR9 hok (by omega) a1)) (cs_L_234 C ⟨Nat.le_of_ble_eq_true rfl, Nat.le_of_ble_eq_true rfl⟩) hm9 rfl rfl rfl rfl (Nat.le_of_ble_eq_true rfl) rfl rfl (by show _ ≤ 600128; omega) (by show _ ≤ 7301098; omega) dL_law_1345 (fun xr M2 hq => ?_)
  obtain ⟨hI2, hr2⟩ := hq
  refine z_istore (lv' := [(6, .int xr), (5, .int xk), (4, .int (nI (5 * jx))), (0, .ref b), (1, .ref x), (2, .ref m), (3, .ref ou)]) C dL_law_1348 (by decide) rfl ?_
  refine z_goto C (tgt := 1757) dL_law_1350 (by decide) ?_
  refine z_iinc (v := nI (5 * (jx + 1))) (lv' := [(4, .int (nI (5 * (jx + 1)))), (6, .int xr), (5, .int xk), (0, .ref b), (1, .ref x), (2, .ref m), (3, .ref ou)]) C dL_law_1757 2 rfl (j_inc5 jx) (by decide) rfl ?_
  refine z_goto C (tgt := 27) dL_law_1760 (by decide) ?_
  refine z_fewer [0, 3, 4, 5, 6] rfl ?_
  refine z_widen (k' := kq + 4000) (n' := nq + 60000) (by omega) (by omega) ?_
  exact kk _ _ _ _ hI2 (so_pop hok)
set_option maxRecDepth 20000 in
theorem lc_ofPane {X : zX} (C : z_C X cL_law RL 7 room_1) (h_st : (z_l X).stackTraces = false) {b L : Nat} {xs : Nat → Int32} (hX : va_X b L xs (z_s X) (z_s X).heap) (hbl : b < (z_s X).heap.size) (hbA : ¬ z_F X b) {jx : Nat} {a1 a2 a3 a4 : Int32} (hs1 : vp_in (nI (5 * jx) + 1) L ∧ xs (nI (5 * jx) + 1).toNatClampNeg = a1) (hs2 : vp_in (nI (5 * jx) + 2) L ∧ xs (nI (5 * jx) + 2).toNatClampNeg = a2) (hs3 : vp_in (nI (5 * jx) + 3) L ∧ xs (nI (5 * jx) + 3).toNatClampNeg = a3) (hs4 : vp_in (nI (5 * jx) + 4) L ∧ xs (nI (5 * jx) + 4).toNatClampNeg = a4) {u : sS} {x pa sp ln rf sb m pn td ou : Nat} {th : Int32} {on : Int64} {Mw : zM} (hI : s_LX (z_G X) x pa sp ln rf sb m pn td ou u u th on Mw) (hok : s_ok jx u) (hj : jx < 64) {kq nq : Nat} (hkq : kq + 4000 ≤ 600128) (hnq : nq + 60000 ≤ 7301098) (kk : ∀ v th on Mz, s_LX (z_G X) x pa sp ln rf sb m pn td ou v v th on Mz → s_ok (jx + 1) v → z_W X Mz (kq + 4000) (nq + 60000) 27 [(4, .int (nI (5 * (jx + 1)))), (0, .ref b), (1, .ref x), (2, .ref m), (3, .ref ou)] []) : z_W X Mw kq nq 1353 [(4, .int (nI (5 * jx))), (0, .ref b), (1, .ref x), (2, .ref m), (3, .ref ou)] [] := by
  refine z_aload_n C dL_law_1353 rfl 2 rfl ?_
  refine z_aload_n C dL_law_1354 rfl 1 rfl ?_
  refine z_iload C dL_law_1355 0 rfl ?_
  refine z_iconst C (v := 1) dL_law_1357 (by decide) ?_
  refine z_iadd C dL_law_1358 ?_
  refine z_sld C hX hbl hbA hs1.1 hs1.2 dL_law_1359 ?_
  refine z_aload_n C dL_law_1360 rfl 1 rfl ?_
  refine z_iload C dL_law_1361 0 rfl ?_
  refine z_iconst C (v := 2) dL_law_1363 (by decide) ?_
  refine z_iadd C dL_law_1364 ?_
  refine z_sld C hX hbl hbA hs2.1 hs2.2 dL_law_1365 ?_
  refine z_aload_n C dL_law_1366 rfl 4 rfl ?_
  refine z_callHi (rest := []) (k' := kq + 8) (n' := nq + 48) C (s_LX_P hI (fun hC9 hd9 ho9 => w_ofPane (z_l X) h_st hC9 hd9 ho9 hok a1 a2)) (ch_ofPane C ⟨Nat.le_of_ble_eq_true rfl, Nat.le_of_ble_eq_true rfl⟩) rfl rfl (Nat.le_of_ble_eq_true rfl) rfl rfl (by show _ ≤ 600128; omega) (by show _ ≤ 7301098; omega) dL_law_1367 (fun xk M1 hq => ?_)
  obtain ⟨hk1, on1, hI1, ho1⟩ := hq
  refine z_istore (lv' := [(5, .int xk), (4, .int (nI (5 * jx))), (0, .ref b), (1, .ref x), (2, .ref m), (3, .ref ou)]) C dL_law_1370 (by decide) rfl ?_
  refine z_aload_n C dL_law_1372 rfl 4 rfl ?_
  refine z_aload_n C dL_law_1373 rfl 2 rfl ?_
  refine z_iload C dL_law_1374 1 rfl ?_
  refine z_iconst C (v := 1) dL_law_1376 (by decide) ?_
  refine z_iadd C dL_law_1377 ?_
  refine z_sld C hX hbl hbA hs1.1 hs1.2 dL_law_1378 ?_
  refine z_aload_n C dL_law_1379 rfl 2 rfl ?_
  refine z_iload C dL_law_1380 1 rfl ?_
  refine z_iconst C (v := 2) dL_law_1382 (by decide) ?_
  refine z_iadd C dL_law_1383 ?_
  refine z_sld C hX hbl hbA hs2.1 hs2.2 dL_law_1384 ?_
  obtain ⟨tp9, hm9⟩ := s_LX_m hI1
  refine z_callVi (rest := []) (k' := kq + 8 + 1) (n' := nq + 48 + 10) C (s_LX_R hI1 (fun hR9 => a_X5_ofPane (z_l X) hR9 hok (by omega) a1 a2)) (cs_L_237 C ⟨Nat.le_of_ble_eq_true rfl, Nat.le_of_ble_eq_true rfl⟩) hm9 rfl rfl rfl rfl (Nat.le_of_ble_eq_true rfl) rfl rfl (by show _ ≤ 600128; omega) (by show _ ≤ 7301098; omega) dL_law_1385 (fun xr M2 hq => ?_)
  obtain ⟨hI2, hr2⟩ := hq
  refine z_istore (lv' := [(6, .int xr), (5, .int xk), (4, .int (nI (5 * jx))), (0, .ref b), (1, .ref x), (2, .ref m), (3, .ref ou)]) C dL_law_1388 (by decide) rfl ?_
  refine z_goto C (tgt := 1757) dL_law_1390 (by decide) ?_
  refine z_iinc (v := nI (5 * (jx + 1))) (lv' := [(4, .int (nI (5 * (jx + 1)))), (6, .int xr), (5, .int xk), (0, .ref b), (1, .ref x), (2, .ref m), (3, .ref ou)]) C dL_law_1757 2 rfl (j_inc5 jx) (by decide) rfl ?_
  refine z_goto C (tgt := 27) dL_law_1760 (by decide) ?_
  refine z_fewer [0, 3, 4, 5, 6] rfl ?_
  refine z_widen (k' := kq + 4000) (n' := nq + 60000) (by omega) (by omega) ?_
  exact kk _ _ _ _ hI2 (so_ofPane hok)
set_option maxRecDepth 20000 in
theorem lc_at {X : zX} (C : z_C X cL_law RL 7 room_1) (h_st : (z_l X).stackTraces = false) {b L : Nat} {xs : Nat → Int32} (hX : va_X b L xs (z_s X) (z_s X).heap) (hbl : b < (z_s X).heap.size) (hbA : ¬ z_F X b) {jx : Nat} {a1 a2 a3 a4 : Int32} (hs1 : vp_in (nI (5 * jx) + 1) L ∧ xs (nI (5 * jx) + 1).toNatClampNeg = a1) (hs2 : vp_in (nI (5 * jx) + 2) L ∧ xs (nI (5 * jx) + 2).toNatClampNeg = a2) (hs3 : vp_in (nI (5 * jx) + 3) L ∧ xs (nI (5 * jx) + 3).toNatClampNeg = a3) (hs4 : vp_in (nI (5 * jx) + 4) L ∧ xs (nI (5 * jx) + 4).toNatClampNeg = a4) {u : sS} {x pa sp ln rf sb m pn td ou : Nat} {th : Int32} {on : Int64} {Mw : zM} (hI : s_LX (z_G X) x pa sp ln rf sb m pn td ou u u th on Mw) (hok : s_ok jx u) (hj : jx < 64) {kq nq : Nat} (hkq : kq + 4000 ≤ 600128) (hnq : nq + 60000 ≤ 7301098) (kk : ∀ v th on Mz, s_LX (z_G X) x pa sp ln rf sb m pn td ou v v th on Mz → s_ok (jx + 1) v → z_W X Mz (kq + 4000) (nq + 60000) 27 [(4, .int (nI (5 * (jx + 1)))), (0, .ref b), (1, .ref x), (2, .ref m), (3, .ref ou)] []) : z_W X Mw kq nq 1393 [(4, .int (nI (5 * jx))), (0, .ref b), (1, .ref x), (2, .ref m), (3, .ref ou)] [] := by
  refine z_aload_n C dL_law_1393 rfl 2 rfl ?_
  refine z_aload_n C dL_law_1394 rfl 1 rfl ?_
  refine z_iload C dL_law_1395 0 rfl ?_
  refine z_iconst C (v := 1) dL_law_1397 (by decide) ?_
  refine z_iadd C dL_law_1398 ?_
  refine z_sld C hX hbl hbA hs1.1 hs1.2 dL_law_1399 ?_
  refine z_aload_n C dL_law_1400 rfl 1 rfl ?_
  refine z_iload C dL_law_1401 0 rfl ?_
  refine z_iconst C (v := 2) dL_law_1403 (by decide) ?_
  refine z_iadd C dL_law_1404 ?_
  refine z_sld C hX hbl hbA hs2.1 hs2.2 dL_law_1405 ?_
  refine z_aload_n C dL_law_1406 rfl 4 rfl ?_
  refine z_callHi (rest := []) (k' := kq + 8) (n' := nq + 48) C (s_LX_P hI (fun hC9 hd9 ho9 => w_at (z_l X) h_st hC9 hd9 ho9 hok a1 a2)) (ch_at C ⟨Nat.le_of_ble_eq_true rfl, Nat.le_of_ble_eq_true rfl⟩) rfl rfl (Nat.le_of_ble_eq_true rfl) rfl rfl (by show _ ≤ 600128; omega) (by show _ ≤ 7301098; omega) dL_law_1407 (fun xk M1 hq => ?_)
  obtain ⟨hk1, on1, hI1, ho1⟩ := hq
  refine z_istore (lv' := [(5, .int xk), (4, .int (nI (5 * jx))), (0, .ref b), (1, .ref x), (2, .ref m), (3, .ref ou)]) C dL_law_1410 (by decide) rfl ?_
  refine z_aload_n C dL_law_1412 rfl 4 rfl ?_
  refine z_aload_n C dL_law_1413 rfl 2 rfl ?_
  refine z_iload C dL_law_1414 1 rfl ?_
  refine z_iconst C (v := 1) dL_law_1416 (by decide) ?_
  refine z_iadd C dL_law_1417 ?_
  refine z_sld C hX hbl hbA hs1.1 hs1.2 dL_law_1418 ?_
  refine z_aload_n C dL_law_1419 rfl 2 rfl ?_
  refine z_iload C dL_law_1420 1 rfl ?_
  refine z_iconst C (v := 2) dL_law_1422 (by decide) ?_
  refine z_iadd C dL_law_1423 ?_
  refine z_sld C hX hbl hbA hs2.1 hs2.2 dL_law_1424 ?_
  obtain ⟨tp9, hm9⟩ := s_LX_m hI1
  refine z_callVi (rest := []) (k' := kq + 8) (n' := nq + 48) C (s_LX_R hI1 (fun hR9 => a_X5_at (z_l X) hR9 hok (by omega) a1 a2)) (cs_L_240 C ⟨Nat.le_of_ble_eq_true rfl, Nat.le_of_ble_eq_true rfl⟩) hm9 rfl rfl rfl rfl (Nat.le_of_ble_eq_true rfl) rfl rfl (by show _ ≤ 600128; omega) (by show _ ≤ 7301098; omega) dL_law_1425 (fun xr M2 hq => ?_)
  obtain ⟨hI2, hr2⟩ := hq
  refine z_istore (lv' := [(6, .int xr), (5, .int xk), (4, .int (nI (5 * jx))), (0, .ref b), (1, .ref x), (2, .ref m), (3, .ref ou)]) C dL_law_1428 (by decide) rfl ?_
  refine z_goto C (tgt := 1757) dL_law_1430 (by decide) ?_
  refine z_iinc (v := nI (5 * (jx + 1))) (lv' := [(4, .int (nI (5 * (jx + 1)))), (6, .int xr), (5, .int xk), (0, .ref b), (1, .ref x), (2, .ref m), (3, .ref ou)]) C dL_law_1757 2 rfl (j_inc5 jx) (by decide) rfl ?_
  refine z_goto C (tgt := 27) dL_law_1760 (by decide) ?_
  refine z_fewer [0, 3, 4, 5, 6] rfl ?_
  refine z_widen (k' := kq + 4000) (n' := nq + 60000) (by omega) (by omega) ?_
  exact kk _ _ _ _ hI2 (so_at hok)
set_option maxRecDepth 20000 in
theorem lc_peek {X : zX} (C : z_C X cL_law RL 7 room_1) (h_st : (z_l X).stackTraces = false) {b L : Nat} {xs : Nat → Int32} (hX : va_X b L xs (z_s X) (z_s X).heap) (hbl : b < (z_s X).heap.size) (hbA : ¬ z_F X b) {jx : Nat} {a1 a2 a3 a4 : Int32} (hs1 : vp_in (nI (5 * jx) + 1) L ∧ xs (nI (5 * jx) + 1).toNatClampNeg = a1) (hs2 : vp_in (nI (5 * jx) + 2) L ∧ xs (nI (5 * jx) + 2).toNatClampNeg = a2) (hs3 : vp_in (nI (5 * jx) + 3) L ∧ xs (nI (5 * jx) + 3).toNatClampNeg = a3) (hs4 : vp_in (nI (5 * jx) + 4) L ∧ xs (nI (5 * jx) + 4).toNatClampNeg = a4) {u : sS} {x pa sp ln rf sb m pn td ou : Nat} {th : Int32} {on : Int64} {Mw : zM} (hI : s_LX (z_G X) x pa sp ln rf sb m pn td ou u u th on Mw) (hok : s_ok jx u) (hj : jx < 64) {kq nq : Nat} (hkq : kq + 4000 ≤ 600128) (hnq : nq + 60000 ≤ 7301098) (kk : ∀ v th on Mz, s_LX (z_G X) x pa sp ln rf sb m pn td ou v v th on Mz → s_ok (jx + 1) v → z_W X Mz (kq + 4000) (nq + 60000) 27 [(4, .int (nI (5 * (jx + 1)))), (0, .ref b), (1, .ref x), (2, .ref m), (3, .ref ou)] []) : z_W X Mw kq nq 1433 [(4, .int (nI (5 * jx))), (0, .ref b), (1, .ref x), (2, .ref m), (3, .ref ou)] [] := by
  refine z_aload_n C dL_law_1433 rfl 2 rfl ?_
  refine z_aload_n C dL_law_1434 rfl 1 rfl ?_
  refine z_iload C dL_law_1435 0 rfl ?_
  refine z_iconst C (v := 1) dL_law_1437 (by decide) ?_
  refine z_iadd C dL_law_1438 ?_
  refine z_sld C hX hbl hbA hs1.1 hs1.2 dL_law_1439 ?_
  refine z_aload_n C dL_law_1440 rfl 4 rfl ?_
  refine z_callHi (rest := []) (k' := kq + 8) (n' := nq + 48) C (s_LX_P hI (fun hC9 hd9 ho9 => w_peek (z_l X) h_st hC9 hd9 ho9 hok a1)) (ch_peek C ⟨Nat.le_of_ble_eq_true rfl, Nat.le_of_ble_eq_true rfl⟩) rfl rfl (Nat.le_of_ble_eq_true rfl) rfl rfl (by show _ ≤ 600128; omega) (by show _ ≤ 7301098; omega) dL_law_1441 (fun xk M1 hq => ?_)
  obtain ⟨hk1, on1, hI1, ho1⟩ := hq
  refine z_istore (lv' := [(5, .int xk), (4, .int (nI (5 * jx))), (0, .ref b), (1, .ref x), (2, .ref m), (3, .ref ou)]) C dL_law_1444 (by decide) rfl ?_
  refine z_aload_n C dL_law_1446 rfl 4 rfl ?_
  refine z_aload_n C dL_law_1447 rfl 2 rfl ?_
  refine z_iload C dL_law_1448 1 rfl ?_
  refine z_iconst C (v := 1) dL_law_1450 (by decide) ?_
  refine z_iadd C dL_law_1451 ?_
  refine z_sld C hX hbl hbA hs1.1 hs1.2 dL_law_1452 ?_
  obtain ⟨tp9, hm9⟩ := s_LX_m hI1
  refine z_callVi (rest := []) (k' := kq + 8) (n' := nq + 48) C (s_LX_R hI1 (fun hR9 => a_X5_peek (z_l X) hR9 hok (by omega) a1)) (cs_L_243 C ⟨Nat.le_of_ble_eq_true rfl, Nat.le_of_ble_eq_true rfl⟩) hm9 rfl rfl rfl rfl (Nat.le_of_ble_eq_true rfl) rfl rfl (by show _ ≤ 600128; omega) (by show _ ≤ 7301098; omega) dL_law_1453 (fun xr M2 hq => ?_)
  obtain ⟨hI2, hr2⟩ := hq
  refine z_istore (lv' := [(6, .int xr), (5, .int xk), (4, .int (nI (5 * jx))), (0, .ref b), (1, .ref x), (2, .ref m), (3, .ref ou)]) C dL_law_1456 (by decide) rfl ?_
  refine z_goto C (tgt := 1757) dL_law_1458 (by decide) ?_
  refine z_iinc (v := nI (5 * (jx + 1))) (lv' := [(4, .int (nI (5 * (jx + 1)))), (6, .int xr), (5, .int xk), (0, .ref b), (1, .ref x), (2, .ref m), (3, .ref ou)]) C dL_law_1757 2 rfl (j_inc5 jx) (by decide) rfl ?_
  refine z_goto C (tgt := 27) dL_law_1760 (by decide) ?_
  refine z_fewer [0, 3, 4, 5, 6] rfl ?_
  refine z_widen (k' := kq + 4000) (n' := nq + 60000) (by omega) (by omega) ?_
  exact kk _ _ _ _ hI2 (so_peek hok)
set_option maxRecDepth 20000 in
theorem lc_total {X : zX} (C : z_C X cL_law RL 7 room_1) (h_st : (z_l X).stackTraces = false) {b L : Nat} {xs : Nat → Int32} (hX : va_X b L xs (z_s X) (z_s X).heap) (hbl : b < (z_s X).heap.size) (hbA : ¬ z_F X b) {jx : Nat} {a1 a2 a3 a4 : Int32} (hs1 : vp_in (nI (5 * jx) + 1) L ∧ xs (nI (5 * jx) + 1).toNatClampNeg = a1) (hs2 : vp_in (nI (5 * jx) + 2) L ∧ xs (nI (5 * jx) + 2).toNatClampNeg = a2) (hs3 : vp_in (nI (5 * jx) + 3) L ∧ xs (nI (5 * jx) + 3).toNatClampNeg = a3) (hs4 : vp_in (nI (5 * jx) + 4) L ∧ xs (nI (5 * jx) + 4).toNatClampNeg = a4) {u : sS} {x pa sp ln rf sb m pn td ou : Nat} {th : Int32} {on : Int64} {Mw : zM} (hI : s_LX (z_G X) x pa sp ln rf sb m pn td ou u u th on Mw) (hok : s_ok jx u) (hj : jx < 64) {kq nq : Nat} (hkq : kq + 4000 ≤ 600128) (hnq : nq + 60000 ≤ 7301098) (kk : ∀ v th on Mz, s_LX (z_G X) x pa sp ln rf sb m pn td ou v v th on Mz → s_ok (jx + 1) v → z_W X Mz (kq + 4000) (nq + 60000) 27 [(4, .int (nI (5 * (jx + 1)))), (0, .ref b), (1, .ref x), (2, .ref m), (3, .ref ou)] []) : z_W X Mw kq nq 1461 [(4, .int (nI (5 * jx))), (0, .ref b), (1, .ref x), (2, .ref m), (3, .ref ou)] [] := by
  refine z_aload_n C dL_law_1461 rfl 2 rfl ?_
  refine z_aload_n C dL_law_1462 rfl 1 rfl ?_
  refine z_iload C dL_law_1463 0 rfl ?_
  refine z_iconst C (v := 1) dL_law_1465 (by decide) ?_
  refine z_iadd C dL_law_1466 ?_
  refine z_sld C hX hbl hbA hs1.1 hs1.2 dL_law_1467 ?_
  refine z_aload_n C dL_law_1468 rfl 4 rfl ?_
  refine z_callHi (rest := []) (k' := kq + 40) (n' := nq + 1500) C (s_LX_T hI (fun hC9 hd9 ho9 => w_total (z_l X) h_st hC9 hd9 ho9 hok a1)) (ch_total C ⟨Nat.le_of_ble_eq_true rfl, Nat.le_of_ble_eq_true rfl⟩) rfl rfl (Nat.le_of_ble_eq_true rfl) rfl rfl (by show _ ≤ 600128; omega) (by show _ ≤ 7301098; omega) dL_law_1469 (fun xk M1 hq => ?_)
  obtain ⟨hk1, on1, hI1⟩ := hq
  refine z_istore (lv' := [(5, .int xk), (4, .int (nI (5 * jx))), (0, .ref b), (1, .ref x), (2, .ref m), (3, .ref ou)]) C dL_law_1472 (by decide) rfl ?_
  refine z_aload_n C dL_law_1474 rfl 4 rfl ?_
  refine z_aload_n C dL_law_1475 rfl 2 rfl ?_
  refine z_iload C dL_law_1476 1 rfl ?_
  refine z_iconst C (v := 1) dL_law_1478 (by decide) ?_
  refine z_iadd C dL_law_1479 ?_
  refine z_sld C hX hbl hbA hs1.1 hs1.2 dL_law_1480 ?_
  obtain ⟨tp9, hm9⟩ := s_LX_m hI1
  refine z_callVr (rest := []) (k' := kq + 40 + 40) (n' := nq + 1500 + 1500) C (s_LX_RT hI1 (fun hR9 => a_X5_total (z_l X) hR9 hok (by omega) a1)) (cs_L_246 C ⟨Nat.le_of_ble_eq_true rfl, Nat.le_of_ble_eq_true rfl⟩) hm9 rfl rfl rfl rfl (Nat.le_of_ble_eq_true rfl) rfl rfl (by show _ ≤ 600128; omega) (by show _ ≤ 7301098; omega) dL_law_1481 (fun xr M2 hq => ?_)
  have hI2 := hq
  refine z_astore (lv' := [(6, .ref xr), (5, .int xk), (4, .int (nI (5 * jx))), (0, .ref b), (1, .ref x), (2, .ref m), (3, .ref ou)]) C dL_law_1484 (by decide) rfl ?_
  refine z_goto C (tgt := 1757) dL_law_1486 (by decide) ?_
  refine z_iinc (v := nI (5 * (jx + 1))) (lv' := [(4, .int (nI (5 * (jx + 1)))), (6, .ref xr), (5, .int xk), (0, .ref b), (1, .ref x), (2, .ref m), (3, .ref ou)]) C dL_law_1757 2 rfl (j_inc5 jx) (by decide) rfl ?_
  refine z_goto C (tgt := 27) dL_law_1760 (by decide) ?_
  refine z_fewer [0, 3, 4, 5, 6] rfl ?_
  refine z_widen (k' := kq + 4000) (n' := nq + 60000) (by omega) (by omega) ?_
  exact kk _ _ _ _ hI2 (s_ok_mono hok (Nat.le_succ _))
set_option maxRecDepth 20000 in
theorem lc_text {X : zX} (C : z_C X cL_law RL 7 room_1) (h_st : (z_l X).stackTraces = false) {b L : Nat} {xs : Nat → Int32} (hX : va_X b L xs (z_s X) (z_s X).heap) (hbl : b < (z_s X).heap.size) (hbA : ¬ z_F X b) {jx : Nat} {a1 a2 a3 a4 : Int32} (hs1 : vp_in (nI (5 * jx) + 1) L ∧ xs (nI (5 * jx) + 1).toNatClampNeg = a1) (hs2 : vp_in (nI (5 * jx) + 2) L ∧ xs (nI (5 * jx) + 2).toNatClampNeg = a2) (hs3 : vp_in (nI (5 * jx) + 3) L ∧ xs (nI (5 * jx) + 3).toNatClampNeg = a3) (hs4 : vp_in (nI (5 * jx) + 4) L ∧ xs (nI (5 * jx) + 4).toNatClampNeg = a4) {u : sS} {x pa sp ln rf sb m pn td ou : Nat} {th : Int32} {on : Int64} {Mw : zM} (hI : s_LX (z_G X) x pa sp ln rf sb m pn td ou u u th on Mw) (hok : s_ok jx u) (hj : jx < 64) {kq nq : Nat} (hkq : kq + 4000 ≤ 600128) (hnq : nq + 60000 ≤ 7301098) (kk : ∀ v th on Mz, s_LX (z_G X) x pa sp ln rf sb m pn td ou v v th on Mz → s_ok (jx + 1) v → z_W X Mz (kq + 4000) (nq + 60000) 27 [(4, .int (nI (5 * (jx + 1)))), (0, .ref b), (1, .ref x), (2, .ref m), (3, .ref ou)] []) : z_W X Mw kq nq 1489 [(4, .int (nI (5 * jx))), (0, .ref b), (1, .ref x), (2, .ref m), (3, .ref ou)] [] := by
  refine z_aload_n C dL_law_1489 rfl 2 rfl ?_
  refine z_aload_n C dL_law_1490 rfl 1 rfl ?_
  refine z_iload C dL_law_1491 0 rfl ?_
  refine z_iconst C (v := 1) dL_law_1493 (by decide) ?_
  refine z_iadd C dL_law_1494 ?_
  refine z_sld C hX hbl hbA hs1.1 hs1.2 dL_law_1495 ?_
  refine z_aload_n C dL_law_1496 rfl 4 rfl ?_
  refine z_callHi (rest := []) (k' := kq + 40) (n' := nq + 1500) C (s_LX_T hI (fun hC9 hd9 ho9 => w_text (z_l X) h_st hC9 hd9 ho9 hok a1)) (ch_text C ⟨Nat.le_of_ble_eq_true rfl, Nat.le_of_ble_eq_true rfl⟩) rfl rfl (Nat.le_of_ble_eq_true rfl) rfl rfl (by show _ ≤ 600128; omega) (by show _ ≤ 7301098; omega) dL_law_1497 (fun xk M1 hq => ?_)
  obtain ⟨hk1, on1, hI1⟩ := hq
  refine z_istore (lv' := [(5, .int xk), (4, .int (nI (5 * jx))), (0, .ref b), (1, .ref x), (2, .ref m), (3, .ref ou)]) C dL_law_1500 (by decide) rfl ?_
  refine z_aload_n C dL_law_1502 rfl 4 rfl ?_
  refine z_aload_n C dL_law_1503 rfl 2 rfl ?_
  refine z_iload C dL_law_1504 1 rfl ?_
  refine z_iconst C (v := 1) dL_law_1506 (by decide) ?_
  refine z_iadd C dL_law_1507 ?_
  refine z_sld C hX hbl hbA hs1.1 hs1.2 dL_law_1508 ?_
  obtain ⟨tp9, hm9⟩ := s_LX_m hI1
  refine z_callVr (rest := []) (k' := kq + 40 + 40) (n' := nq + 1500 + 1500) C (s_LX_RT hI1 (fun hR9 => a_X5_text (z_l X) hR9 hok (by omega) a1)) (cs_L_249 C ⟨Nat.le_of_ble_eq_true rfl, Nat.le_of_ble_eq_true rfl⟩) hm9 rfl rfl rfl rfl (Nat.le_of_ble_eq_true rfl) rfl rfl (by show _ ≤ 600128; omega) (by show _ ≤ 7301098; omega) dL_law_1509 (fun xr M2 hq => ?_)
  have hI2 := hq
  refine z_astore (lv' := [(6, .ref xr), (5, .int xk), (4, .int (nI (5 * jx))), (0, .ref b), (1, .ref x), (2, .ref m), (3, .ref ou)]) C dL_law_1512 (by decide) rfl ?_
  refine z_goto C (tgt := 1757) dL_law_1514 (by decide) ?_
  refine z_iinc (v := nI (5 * (jx + 1))) (lv' := [(4, .int (nI (5 * (jx + 1)))), (6, .ref xr), (5, .int xk), (0, .ref b), (1, .ref x), (2, .ref m), (3, .ref ou)]) C dL_law_1757 2 rfl (j_inc5 jx) (by decide) rfl ?_
  refine z_goto C (tgt := 27) dL_law_1760 (by decide) ?_
  refine z_fewer [0, 3, 4, 5, 6] rfl ?_
  refine z_widen (k' := kq + 4000) (n' := nq + 60000) (by omega) (by omega) ?_
  exact kk _ _ _ _ hI2 (s_ok_mono hok (Nat.le_succ _))
set_option maxRecDepth 20000 in
theorem lc_whole {X : zX} (C : z_C X cL_law RL 7 room_1) (h_st : (z_l X).stackTraces = false) {b L : Nat} {xs : Nat → Int32} (hX : va_X b L xs (z_s X) (z_s X).heap) (hbl : b < (z_s X).heap.size) (hbA : ¬ z_F X b) {jx : Nat} {a1 a2 a3 a4 : Int32} (hs1 : vp_in (nI (5 * jx) + 1) L ∧ xs (nI (5 * jx) + 1).toNatClampNeg = a1) (hs2 : vp_in (nI (5 * jx) + 2) L ∧ xs (nI (5 * jx) + 2).toNatClampNeg = a2) (hs3 : vp_in (nI (5 * jx) + 3) L ∧ xs (nI (5 * jx) + 3).toNatClampNeg = a3) (hs4 : vp_in (nI (5 * jx) + 4) L ∧ xs (nI (5 * jx) + 4).toNatClampNeg = a4) {u : sS} {x pa sp ln rf sb m pn td ou : Nat} {th : Int32} {on : Int64} {Mw : zM} (hI : s_LX (z_G X) x pa sp ln rf sb m pn td ou u u th on Mw) (hok : s_ok jx u) (hj : jx < 64) {kq nq : Nat} (hkq : kq + 4000 ≤ 600128) (hnq : nq + 60000 ≤ 7301098) (kk : ∀ v th on Mz, s_LX (z_G X) x pa sp ln rf sb m pn td ou v v th on Mz → s_ok (jx + 1) v → z_W X Mz (kq + 4000) (nq + 60000) 27 [(4, .int (nI (5 * (jx + 1)))), (0, .ref b), (1, .ref x), (2, .ref m), (3, .ref ou)] []) : z_W X Mw kq nq 1517 [(4, .int (nI (5 * jx))), (0, .ref b), (1, .ref x), (2, .ref m), (3, .ref ou)] [] := by
  refine z_aload_n C dL_law_1517 rfl 2 rfl ?_
  refine z_aload_n C dL_law_1518 rfl 1 rfl ?_
  refine z_iload C dL_law_1519 0 rfl ?_
  refine z_iconst C (v := 1) dL_law_1521 (by decide) ?_
  refine z_iadd C dL_law_1522 ?_
  refine z_sld C hX hbl hbA hs1.1 hs1.2 dL_law_1523 ?_
  refine z_aload_n C dL_law_1524 rfl 4 rfl ?_
  refine z_callHi (rest := []) (k' := kq + 40) (n' := nq + 1500) C (s_LX_T hI (fun hC9 hd9 ho9 => w_whole (z_l X) h_st hC9 hd9 ho9 hok a1)) (ch_whole C ⟨Nat.le_of_ble_eq_true rfl, Nat.le_of_ble_eq_true rfl⟩) rfl rfl (Nat.le_of_ble_eq_true rfl) rfl rfl (by show _ ≤ 600128; omega) (by show _ ≤ 7301098; omega) dL_law_1525 (fun xk M1 hq => ?_)
  obtain ⟨hk1, on1, hI1⟩ := hq
  refine z_istore (lv' := [(5, .int xk), (4, .int (nI (5 * jx))), (0, .ref b), (1, .ref x), (2, .ref m), (3, .ref ou)]) C dL_law_1528 (by decide) rfl ?_
  refine z_aload_n C dL_law_1530 rfl 4 rfl ?_
  refine z_aload_n C dL_law_1531 rfl 2 rfl ?_
  refine z_iload C dL_law_1532 1 rfl ?_
  refine z_iconst C (v := 1) dL_law_1534 (by decide) ?_
  refine z_iadd C dL_law_1535 ?_
  refine z_sld C hX hbl hbA hs1.1 hs1.2 dL_law_1536 ?_
  obtain ⟨tp9, hm9⟩ := s_LX_m hI1
  refine z_callVr (rest := []) (k' := kq + 40 + 40) (n' := nq + 1500 + 1500) C (s_LX_RT hI1 (fun hR9 => a_X5_whole (z_l X) hR9 hok (by omega) a1)) (cs_L_252 C ⟨Nat.le_of_ble_eq_true rfl, Nat.le_of_ble_eq_true rfl⟩) hm9 rfl rfl rfl rfl (Nat.le_of_ble_eq_true rfl) rfl rfl (by show _ ≤ 600128; omega) (by show _ ≤ 7301098; omega) dL_law_1537 (fun xr M2 hq => ?_)
  have hI2 := hq
  refine z_astore (lv' := [(6, .ref xr), (5, .int xk), (4, .int (nI (5 * jx))), (0, .ref b), (1, .ref x), (2, .ref m), (3, .ref ou)]) C dL_law_1540 (by decide) rfl ?_
  refine z_goto C (tgt := 1757) dL_law_1542 (by decide) ?_
  refine z_iinc (v := nI (5 * (jx + 1))) (lv' := [(4, .int (nI (5 * (jx + 1)))), (6, .ref xr), (5, .int xk), (0, .ref b), (1, .ref x), (2, .ref m), (3, .ref ou)]) C dL_law_1757 2 rfl (j_inc5 jx) (by decide) rfl ?_
  refine z_goto C (tgt := 27) dL_law_1760 (by decide) ?_
  refine z_fewer [0, 3, 4, 5, 6] rfl ?_
  refine z_widen (k' := kq + 4000) (n' := nq + 60000) (by omega) (by omega) ?_
  exact kk _ _ _ _ hI2 (s_ok_mono hok (Nat.le_succ _))
