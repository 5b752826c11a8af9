theorem d_Law_1182 : decode code 1182 = .ok (.iadd, 1) := by decide +kernel
theorem d_Law_1183 : decode code 1183 = .ok (.iaload, 1) := by decide +kernel
theorem d_Law_1184 : decode code 1184 = .ok (.aload_n 0, 1) := by decide +kernel
theorem d_Law_1185 : decode code 1185 = .ok (.iload_n 3, 1) := by decide +kernel
theorem d_Law_1186 : decode code 1186 = .ok (.iconst 2, 1) := by decide +kernel
theorem d_Law_1187 : decode code 1187 = .ok (.iadd, 1) := by decide +kernel
theorem d_Law_1188 : decode code 1188 = .ok (.iaload, 1) := by decide +kernel
theorem d_Law_1189 : decode code 1189 = .ok (.invokevirtual 147, 3) := by decide +kernel
theorem d_Law_1192 : decode code 1192 = .ok (.pop, 1) := by decide +kernel
theorem d_Law_1193 : decode code 1193 = .ok (.aload_n 2, 1) := by decide +kernel
theorem d_Law_1194 : decode code 1194 = .ok (.aload_n 0, 1) := by decide +kernel
theorem d_Law_1195 : decode code 1195 = .ok (.iload_n 3, 1) := by decide +kernel
theorem d_Law_1196 : decode code 1196 = .ok (.iconst 1, 1) := by decide +kernel
theorem d_Law_1197 : decode code 1197 = .ok (.iadd, 1) := by decide +kernel
theorem d_Law_1198 : decode code 1198 = .ok (.iaload, 1) := by decide +kernel
theorem d_Law_1199 : decode code 1199 = .ok (.aload_n 0, 1) := by decide +kernel
theorem d_Law_1200 : decode code 1200 = .ok (.iload_n 3, 1) := by decide +kernel
theorem d_Law_1201 : decode code 1201 = .ok (.iconst 2, 1) := by decide +kernel
theorem d_Law_1202 : decode code 1202 = .ok (.iadd, 1) := by decide +kernel
theorem d_Law_1203 : decode code 1203 = .ok (.iaload, 1) := by decide +kernel
theorem d_Law_1204 : decode code 1204 = .ok (.invokevirtual 150, 3) := by decide +kernel
theorem d_Law_1207 : decode code 1207 = .ok (.pop, 1) := by decide +kernel
theorem d_Law_1208 : decode code 1208 = .ok (.goto 302, 3) := by decide +kernel
theorem d_Law_1211 : decode code 1211 = .ok (.aload_n 1, 1) := by decide +kernel
theorem d_Law_1212 : decode code 1212 = .ok (.aload_n 0, 1) := by decide +kernel
theorem d_Law_1213 : decode code 1213 = .ok (.iload_n 3, 1) := by decide +kernel
theorem d_Law_1214 : decode code 1214 = .ok (.iconst 1, 1) := by decide +kernel
theorem d_Law_1215 : decode code 1215 = .ok (.iadd, 1) := by decide +kernel
theorem d_Law_1216 : decode code 1216 = .ok (.iaload, 1) := by decide +kernel
theorem d_Law_1217 : decode code 1217 = .ok (.aload_n 0, 1) := by decide +kernel
theorem d_Law_1218 : decode code 1218 = .ok (.iload_n 3, 1) := by decide +kernel
theorem d_Law_1219 : decode code 1219 = .ok (.iconst 2, 1) := by decide +kernel
theorem d_Law_1220 : decode code 1220 = .ok (.iadd, 1) := by decide +kernel
theorem d_Law_1221 : decode code 1221 = .ok (.iaload, 1) := by decide +kernel
theorem d_Law_1222 : decode code 1222 = .ok (.invokevirtual 151, 3) := by decide +kernel
theorem d_Law_1225 : decode code 1225 = .ok (.pop2, 1) := by decide +kernel
theorem d_Law_1226 : decode code 1226 = .ok (.aload_n 2, 1) := by decide +kernel
theorem d_Law_1227 : decode code 1227 = .ok (.aload_n 0, 1) := by decide +kernel
theorem d_Law_1228 : decode code 1228 = .ok (.iload_n 3, 1) := by decide +kernel
theorem d_Law_1229 : decode code 1229 = .ok (.iconst 1, 1) := by decide +kernel
theorem d_Law_1230 : decode code 1230 = .ok (.iadd, 1) := by decide +kernel
theorem d_Law_1231 : decode code 1231 = .ok (.iaload, 1) := by decide +kernel
theorem d_Law_1232 : decode code 1232 = .ok (.aload_n 0, 1) := by decide +kernel
theorem d_Law_1233 : decode code 1233 = .ok (.iload_n 3, 1) := by decide +kernel
theorem d_Law_1234 : decode code 1234 = .ok (.iconst 2, 1) := by decide +kernel
theorem d_Law_1235 : decode code 1235 = .ok (.iadd, 1) := by decide +kernel
theorem d_Law_1236 : decode code 1236 = .ok (.iaload, 1) := by decide +kernel
theorem d_Law_1237 : decode code 1237 = .ok (.invokevirtual 155, 3) := by decide +kernel
theorem d_Law_1240 : decode code 1240 = .ok (.pop2, 1) := by decide +kernel
theorem d_Law_1241 : decode code 1241 = .ok (.goto 269, 3) := by decide +kernel
theorem d_Law_1244 : decode code 1244 = .ok (.aload_n 1, 1) := by decide +kernel
theorem d_Law_1245 : decode code 1245 = .ok (.aload_n 0, 1) := by decide +kernel
theorem d_Law_1246 : decode code 1246 = .ok (.iload_n 3, 1) := by decide +kernel
theorem d_Law_1247 : decode code 1247 = .ok (.iconst 1, 1) := by decide +kernel
theorem d_Law_1248 : decode code 1248 = .ok (.iadd, 1) := by decide +kernel
theorem d_Law_1249 : decode code 1249 = .ok (.iaload, 1) := by decide +kernel
theorem d_Law_1250 : decode code 1250 = .ok (.invokevirtual 156, 3) := by decide +kernel
theorem d_Law_1253 : decode code 1253 = .ok (.pop2, 1) := by decide +kernel
theorem d_Law_1254 : decode code 1254 = .ok (.aload_n 2, 1) := by decide +kernel
theorem d_Law_1255 : decode code 1255 = .ok (.aload_n 0, 1) := by decide +kernel
theorem d_Law_1256 : decode code 1256 = .ok (.iload_n 3, 1) := by decide +kernel
theorem d_Law_1257 : decode code 1257 = .ok (.iconst 1, 1) := by decide +kernel
theorem d_Law_1258 : decode code 1258 = .ok (.iadd, 1) := by decide +kernel
theorem d_Law_1259 : decode code 1259 = .ok (.iaload, 1) := by decide +kernel
theorem d_Law_1260 : decode code 1260 = .ok (.invokevirtual 160, 3) := by decide +kernel
theorem d_Law_1263 : decode code 1263 = .ok (.pop2, 1) := by decide +kernel
theorem d_Law_1264 : decode code 1264 = .ok (.goto 246, 3) := by decide +kernel
theorem d_Law_1267 : decode code 1267 = .ok (.aload_n 1, 1) := by decide +kernel
theorem d_Law_1268 : decode code 1268 = .ok (.aload_n 0, 1) := by decide +kernel
theorem d_Law_1269 : decode code 1269 = .ok (.iload_n 3, 1) := by decide +kernel
theorem d_Law_1270 : decode code 1270 = .ok (.iconst 1, 1) := by decide +kernel
theorem d_Law_1271 : decode code 1271 = .ok (.iadd, 1) := by decide +kernel
theorem d_Law_1272 : decode code 1272 = .ok (.iaload, 1) := by decide +kernel
theorem d_Law_1273 : decode code 1273 = .ok (.invokevirtual 161, 3) := by decide +kernel
theorem d_Law_1276 : decode code 1276 = .ok (.pop2, 1) := by decide +kernel
theorem d_Law_1277 : decode code 1277 = .ok (.aload_n 2, 1) := by decide +kernel
theorem d_Law_1278 : decode code 1278 = .ok (.aload_n 0, 1) := by decide +kernel
theorem d_Law_1279 : decode code 1279 = .ok (.iload_n 3, 1) := by decide +kernel
theorem d_Law_1280 : decode code 1280 = .ok (.iconst 1, 1) := by decide +kernel
theorem d_Law_1281 : decode code 1281 = .ok (.iadd, 1) := by decide +kernel
theorem d_Law_1282 : decode code 1282 = .ok (.iaload, 1) := by decide +kernel
theorem d_Law_1283 : decode code 1283 = .ok (.invokevirtual 164, 3) := by decide +kernel
theorem d_Law_1286 : decode code 1286 = .ok (.pop2, 1) := by decide +kernel
theorem d_Law_1287 : decode code 1287 = .ok (.goto 223, 3) := by decide +kernel
theorem d_Law_1290 : decode code 1290 = .ok (.aload_n 1, 1) := by decide +kernel
theorem d_Law_1291 : decode code 1291 = .ok (.aload_n 0, 1) := by decide +kernel
theorem d_Law_1292 : decode code 1292 = .ok (.iload_n 3, 1) := by decide +kernel
theorem d_Law_1293 : decode code 1293 = .ok (.iconst 1, 1) := by decide +kernel
theorem d_Law_1294 : decode code 1294 = .ok (.iadd, 1) := by decide +kernel
theorem d_Law_1295 : decode code 1295 = .ok (.iaload, 1) := by decide +kernel
theorem d_Law_1296 : decode code 1296 = .ok (.invokevirtual 165, 3) := by decide +kernel
theorem d_Law_1299 : decode code 1299 = .ok (.pop2, 1) := by decide +kernel
theorem d_Law_1300 : decode code 1300 = .ok (.aload_n 2, 1) := by decide +kernel
theorem d_Law_1301 : decode code 1301 = .ok (.aload_n 0, 1) := by decide +kernel
theorem d_Law_1302 : decode code 1302 = .ok (.iload_n 3, 1) := by decide +kernel
theorem d_Law_1303 : decode code 1303 = .ok (.iconst 1, 1) := by decide +kernel
theorem d_Law_1304 : decode code 1304 = .ok (.iadd, 1) := by decide +kernel
theorem d_Law_1305 : decode code 1305 = .ok (.iaload, 1) := by decide +kernel
theorem d_Law_1306 : decode code 1306 = .ok (.invokevirtual 168, 3) := by decide +kernel
theorem d_Law_1309 : decode code 1309 = .ok (.pop2, 1) := by decide +kernel
theorem d_Law_1310 : decode code 1310 = .ok (.goto 200, 3) := by decide +kernel
theorem d_Law_1313 : decode code 1313 = .ok (.aload_n 1, 1) := by decide +kernel
theorem d_Law_1314 : decode code 1314 = .ok (.invokevirtual 169, 3) := by decide +kernel
theorem d_Law_1317 : decode code 1317 = .ok (.pop, 1) := by decide +kernel
theorem d_Law_1318 : decode code 1318 = .ok (.aload_n 2, 1) := by decide +kernel
theorem d_Law_1319 : decode code 1319 = .ok (.invokevirtual 172, 3) := by decide +kernel
theorem d_Law_1322 : decode code 1322 = .ok (.pop, 1) := by decide +kernel
theorem d_Law_1323 : decode code 1323 = .ok (.goto 187, 3) := by decide +kernel
theorem d_Law_1326 : decode code 1326 = .ok (.aload_n 1, 1) := by decide +kernel
theorem d_Law_1327 : decode code 1327 = .ok (.aload_n 0, 1) := by decide +kernel
theorem d_Law_1328 : decode code 1328 = .ok (.iload_n 3, 1) := by decide +kernel
theorem d_Law_1329 : decode code 1329 = .ok (.iconst 1, 1) := by decide +kernel
theorem d_Law_1330 : decode code 1330 = .ok (.iadd, 1) := by decide +kernel
theorem d_Law_1331 : decode code 1331 = .ok (.iaload, 1) := by decide +kernel
theorem d_Law_1332 : decode code 1332 = .ok (.invokevirtual 173, 3) := by decide +kernel
theorem d_Law_1335 : decode code 1335 = .ok (.pop2, 1) := by decide +kernel
theorem d_Law_1336 : decode code 1336 = .ok (.aload_n 2, 1) := by decide +kernel
theorem d_Law_1337 : decode code 1337 = .ok (.aload_n 0, 1) := by decide +kernel
theorem d_Law_1338 : decode code 1338 = .ok (.iload_n 3, 1) := by decide +kernel
theorem d_Law_1339 : decode code 1339 = .ok (.iconst 1, 1) := by decide +kernel
theorem d_Law_1340 : decode code 1340 = .ok (.iadd, 1) := by decide +kernel
theorem d_Law_1341 : decode code 1341 = .ok (.iaload, 1) := by decide +kernel
theorem d_Law_1342 : decode code 1342 = .ok (.invokevirtual 176, 3) := by decide +kernel
theorem d_Law_1345 : decode code 1345 = .ok (.pop2, 1) := by decide +kernel
theorem d_Law_1346 : decode code 1346 = .ok (.goto 164, 3) := by decide +kernel
theorem d_Law_1349 : decode code 1349 = .ok (.aload_n 1, 1) := by decide +kernel
theorem d_Law_1350 : decode code 1350 = .ok (.aload_n 0, 1) := by decide +kernel
theorem d_Law_1351 : decode code 1351 = .ok (.iload_n 3, 1) := by decide +kernel
theorem d_Law_1352 : decode code 1352 = .ok (.iconst 1, 1) := by decide +kernel
theorem d_Law_1353 : decode code 1353 = .ok (.iadd, 1) := by decide +kernel
theorem d_Law_1354 : decode code 1354 = .ok (.iaload, 1) := by decide +kernel
theorem d_Law_1355 : decode code 1355 = .ok (.invokevirtual 177, 3) := by decide +kernel
theorem d_Law_1358 : decode code 1358 = .ok (.pop, 1) := by decide +kernel
theorem d_Law_1359 : decode code 1359 = .ok (.aload_n 2, 1) := by decide +kernel
theorem d_Law_1360 : decode code 1360 = .ok (.aload_n 0, 1) := by decide +kernel
theorem d_Law_1361 : decode code 1361 = .ok (.iload_n 3, 1) := by decide +kernel
theorem d_Law_1362 : decode code 1362 = .ok (.iconst 1, 1) := by decide +kernel
theorem d_Law_1363 : decode code 1363 = .ok (.iadd, 1) := by decide +kernel
theorem d_Law_1364 : decode code 1364 = .ok (.iaload, 1) := by decide +kernel
theorem d_Law_1365 : decode code 1365 = .ok (.invokevirtual 180, 3) := by decide +kernel
theorem d_Law_1368 : decode code 1368 = .ok (.pop, 1) := by decide +kernel
theorem d_Law_1369 : decode code 1369 = .ok (.goto 141, 3) := by decide +kernel
theorem d_Law_1372 : decode code 1372 = .ok (.aload_n 1, 1) := by decide +kernel
theorem d_Law_1373 : decode code 1373 = .ok (.invokevirtual 181, 3) := by decide +kernel
theorem d_Law_1376 : decode code 1376 = .ok (.pop, 1) := by decide +kernel
theorem d_Law_1377 : decode code 1377 = .ok (.aload_n 2, 1) := by decide +kernel
theorem d_Law_1378 : decode code 1378 = .ok (.invokevirtual 184, 3) := by decide +kernel
theorem d_Law_1381 : decode code 1381 = .ok (.pop, 1) := by decide +kernel
theorem d_Law_1382 : decode code 1382 = .ok (.goto 128, 3) := by decide +kernel
theorem d_Law_1385 : decode code 1385 = .ok (.aload_n 1, 1) := by decide +kernel
theorem d_Law_1386 : decode code 1386 = .ok (.aload_n 0, 1) := by decide +kernel
theorem d_Law_1387 : decode code 1387 = .ok (.iload_n 3, 1) := by decide +kernel
theorem d_Law_1388 : decode code 1388 = .ok (.iconst 1, 1) := by decide +kernel
theorem d_Law_1389 : decode code 1389 = .ok (.iadd, 1) := by decide +kernel
theorem d_Law_1390 : decode code 1390 = .ok (.iaload, 1) := by decide +kernel
theorem d_Law_1391 : decode code 1391 = .ok (.aload_n 0, 1) := by decide +kernel
theorem d_Law_1392 : decode code 1392 = .ok (.iload_n 3, 1) := by decide +kernel
theorem d_Law_1393 : decode code 1393 = .ok (.iconst 2, 1) := by decide +kernel
theorem d_Law_1394 : decode code 1394 = .ok (.iadd, 1) := by decide +kernel
theorem d_Law_1395 : decode code 1395 = .ok (.iaload, 1) := by decide +kernel
theorem d_Law_1396 : decode code 1396 = .ok (.invokevirtual 185, 3) := by decide +kernel
theorem d_Law_1399 : decode code 1399 = .ok (.pop, 1) := by decide +kernel
theorem d_Law_1400 : decode code 1400 = .ok (.aload_n 2, 1) := by decide +kernel
theorem d_Law_1401 : decode code 1401 = .ok (.aload_n 0, 1) := by decide +kernel
theorem d_Law_1402 : decode code 1402 = .ok (.iload_n 3, 1) := by decide +kernel
theorem d_Law_1403 : decode code 1403 = .ok (.iconst 1, 1) := by decide +kernel
theorem d_Law_1404 : decode code 1404 = .ok (.iadd, 1) := by decide +kernel
theorem d_Law_1405 : decode code 1405 = .ok (.iaload, 1) := by decide +kernel
theorem d_Law_1406 : decode code 1406 = .ok (.aload_n 0, 1) := by decide +kernel
theorem d_Law_1407 : decode code 1407 = .ok (.iload_n 3, 1) := by decide +kernel
theorem d_Law_1408 : decode code 1408 = .ok (.iconst 2, 1) := by decide +kernel
theorem d_Law_1409 : decode code 1409 = .ok (.iadd, 1) := by decide +kernel
theorem d_Law_1410 : decode code 1410 = .ok (.iaload, 1) := by decide +kernel
theorem d_Law_1411 : decode code 1411 = .ok (.invokevirtual 188, 3) := by decide +kernel
theorem d_Law_1414 : decode code 1414 = .ok (.pop, 1) := by decide +kernel
theorem d_Law_1415 : decode code 1415 = .ok (.goto 95, 3) := by decide +kernel
theorem d_Law_1418 : decode code 1418 = .ok (.aload_n 1, 1) := by decide +kernel
theorem d_Law_1419 : decode code 1419 = .ok (.invokevirtual 189, 3) := by decide +kernel
theorem d_Law_1422 : decode code 1422 = .ok (.pop, 1) := by decide +kernel
theorem d_Law_1423 : decode code 1423 = .ok (.aload_n 2, 1) := by decide +kernel
theorem d_Law_1424 : decode code 1424 = .ok (.invokevirtual 192, 3) := by decide +kernel
theorem d_Law_1427 : decode code 1427 = .ok (.pop, 1) := by decide +kernel
theorem d_Law_1428 : decode code 1428 = .ok (.goto 82, 3) := by decide +kernel
theorem d_Law_1431 : decode code 1431 = .ok (.aload_n 1, 1) := by decide +kernel
theorem d_Law_1432 : decode code 1432 = .ok (.aload_n 0, 1) := by decide +kernel
theorem d_Law_1433 : decode code 1433 = .ok (.iload_n 3, 1) := by decide +kernel
theorem d_Law_1434 : decode code 1434 = .ok (.iconst 1, 1) := by decide +kernel
theorem d_Law_1435 : decode code 1435 = .ok (.iadd, 1) := by decide +kernel
theorem d_Law_1436 : decode code 1436 = .ok (.iaload, 1) := by decide +kernel
theorem d_Law_1437 : decode code 1437 = .ok (.invokevirtual 193, 3) := by decide +kernel
theorem d_Law_1440 : decode code 1440 = .ok (.pop, 1) := by decide +kernel
theorem d_Law_1441 : decode code 1441 = .ok (.aload_n 2, 1) := by decide +kernel
theorem d_Law_1442 : decode code 1442 = .ok (.aload_n 0, 1) := by decide +kernel
theorem d_Law_1443 : decode code 1443 = .ok (.iload_n 3, 1) := by decide +kernel
theorem d_Law_1444 : decode code 1444 = .ok (.iconst 1, 1) := by decide +kernel
theorem d_Law_1445 : decode code 1445 = .ok (.iadd, 1) := by decide +kernel
theorem d_Law_1446 : decode code 1446 = .ok (.iaload, 1) := by decide +kernel
theorem d_Law_1447 : decode code 1447 = .ok (.invokevirtual 196, 3) := by decide +kernel
theorem d_Law_1450 : decode code 1450 = .ok (.pop, 1) := by decide +kernel
theorem d_Law_1451 : decode code 1451 = .ok (.goto 59, 3) := by decide +kernel
theorem d_Law_1454 : decode code 1454 = .ok (.aload_n 1, 1) := by decide +kernel
theorem d_Law_1455 : decode code 1455 = .ok (.aload_n 0, 1) := by decide +kernel
theorem d_Law_1456 : decode code 1456 = .ok (.iload_n 3, 1) := by decide +kernel
theorem d_Law_1457 : decode code 1457 = .ok (.iconst 1, 1) := by decide +kernel
theorem d_Law_1458 : decode code 1458 = .ok (.iadd, 1) := by decide +kernel
theorem d_Law_1459 : decode code 1459 = .ok (.iaload, 1) := by decide +kernel
theorem d_Law_1460 : decode code 1460 = .ok (.aload_n 0, 1) := by decide +kernel
theorem d_Law_1461 : decode code 1461 = .ok (.iload_n 3, 1) := by decide +kernel
theorem d_Law_1462 : decode code 1462 = .ok (.iconst 2, 1) := by decide +kernel
theorem d_Law_1463 : decode code 1463 = .ok (.iadd, 1) := by decide +kernel
theorem d_Law_1464 : decode code 1464 = .ok (.iaload, 1) := by decide +kernel
theorem d_Law_1465 : decode code 1465 = .ok (.aload_n 0, 1) := by decide +kernel
theorem d_Law_1466 : decode code 1466 = .ok (.iload_n 3, 1) := by decide +kernel
theorem d_Law_1467 : decode code 1467 = .ok (.iconst 3, 1) := by decide +kernel
theorem d_Law_1468 : decode code 1468 = .ok (.iadd, 1) := by decide +kernel
theorem d_Law_1469 : decode code 1469 = .ok (.iaload, 1) := by decide +kernel
theorem d_Law_1470 : decode code 1470 = .ok (.invokevirtual 197, 3) := by decide +kernel
theorem d_Law_1473 : decode code 1473 = .ok (.pop2, 1) := by decide +kernel
theorem d_Law_1474 : decode code 1474 = .ok (.aload_n 2, 1) := by decide +kernel
theorem d_Law_1475 : decode code 1475 = .ok (.aload_n 0, 1) := by decide +kernel
theorem d_Law_1476 : decode code 1476 = .ok (.iload_n 3, 1) := by decide +kernel
theorem d_Law_1477 : decode code 1477 = .ok (.iconst 1, 1) := by decide +kernel
theorem d_Law_1478 : decode code 1478 = .ok (.iadd, 1) := by decide +kernel
theorem d_Law_1479 : decode code 1479 = .ok (.iaload, 1) := by decide +kernel
theorem d_Law_1480 : decode code 1480 = .ok (.aload_n 0, 1) := by decide +kernel
theorem d_Law_1481 : decode code 1481 = .ok (.iload_n 3, 1) := by decide +kernel
theorem d_Law_1482 : decode code 1482 = .ok (.iconst 2, 1) := by decide +kernel
theorem d_Law_1483 : decode code 1483 = .ok (.iadd, 1) := by decide +kernel
theorem d_Law_1484 : decode code 1484 = .ok (.iaload, 1) := by decide +kernel
theorem d_Law_1485 : decode code 1485 = .ok (.aload_n 0, 1) := by decide +kernel
theorem d_Law_1486 : decode code 1486 = .ok (.iload_n 3, 1) := by decide +kernel
theorem d_Law_1487 : decode code 1487 = .ok (.iconst 3, 1) := by decide +kernel
theorem d_Law_1488 : decode code 1488 = .ok (.iadd, 1) := by decide +kernel
theorem d_Law_1489 : decode code 1489 = .ok (.iaload, 1) := by decide +kernel
theorem d_Law_1490 : decode code 1490 = .ok (.invokevirtual 201, 3) := by decide +kernel
theorem d_Law_1493 : decode code 1493 = .ok (.pop2, 1) := by decide +kernel
theorem d_Law_1494 : decode code 1494 = .ok (.goto 16, 3) := by decide +kernel
theorem d_Law_1497 : decode code 1497 = .ok (.aload_n 1, 1) := by decide +kernel
theorem d_Law_1498 : decode code 1498 = .ok (.invokevirtual 202, 3) := by decide +kernel
theorem d_Law_1501 : decode code 1501 = .ok (.pop, 1) := by decide +kernel
theorem d_Law_1502 : decode code 1502 = .ok (.aload_n 2, 1) := by decide +kernel
theorem d_Law_1503 : decode code 1503 = .ok (.invokevirtual 205, 3) := by decide +kernel
theorem d_Law_1506 : decode code 1506 = .ok (.pop, 1) := by decide +kernel
theorem d_Law_1507 : decode code 1507 = .ok (.goto 3, 3) := by decide +kernel
theorem d_Law_1510 : decode code 1510 = .ok (.iinc 3 6, 3) := by decide +kernel
theorem d_Law_1513 : decode code 1513 = .ok (.goto (-1495), 3) := by decide +kernel
theorem d_Law_1516 : decode code 1516 = .ok (.iconst 1, 1) := by decide +kernel
theorem d_Law_1517 : decode code 1517 = .ok (.ireturn, 1) := by decide +kernel
