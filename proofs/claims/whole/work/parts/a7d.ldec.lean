/-! decode rows of the law -/
theorem dL_law_1223 : decode code 1223 = .ok (.aload_n 0, 1) := by decide +kernel
theorem dL_law_1224 : decode code 1224 = .ok (.iload 4, 2) := by decide +kernel
theorem dL_law_1226 : decode code 1226 = .ok (.iconst 3, 1) := by decide +kernel
theorem dL_law_1227 : decode code 1227 = .ok (.iadd, 1) := by decide +kernel
theorem dL_law_1228 : decode code 1228 = .ok (.iaload, 1) := by decide +kernel
theorem dL_law_1229 : decode code 1229 = .ok (.ifCond .eq 7, 3) := by decide +kernel
theorem dL_law_1232 : decode code 1232 = .ok (.iconst 1, 1) := by decide +kernel
theorem dL_law_1233 : decode code 1233 = .ok (.goto 4, 3) := by decide +kernel
theorem dL_law_1236 : decode code 1236 = .ok (.iconst 0, 1) := by decide +kernel
theorem dL_law_1237 : decode code 1237 = .ok (.invokevirtual 128, 3) := by decide +kernel
theorem dL_law_1240 : decode code 1240 = .ok (.aload_n 2, 1) := by decide +kernel
theorem dL_law_1241 : decode code 1241 = .ok (.aload_n 0, 1) := by decide +kernel
theorem dL_law_1242 : decode code 1242 = .ok (.iload 4, 2) := by decide +kernel
theorem dL_law_1244 : decode code 1244 = .ok (.iconst 1, 1) := by decide +kernel
theorem dL_law_1245 : decode code 1245 = .ok (.iadd, 1) := by decide +kernel
theorem dL_law_1246 : decode code 1246 = .ok (.iaload, 1) := by decide +kernel
theorem dL_law_1247 : decode code 1247 = .ok (.aload_n 0, 1) := by decide +kernel
theorem dL_law_1248 : decode code 1248 = .ok (.iload 4, 2) := by decide +kernel
theorem dL_law_1250 : decode code 1250 = .ok (.iconst 2, 1) := by decide +kernel
theorem dL_law_1251 : decode code 1251 = .ok (.iadd, 1) := by decide +kernel
theorem dL_law_1252 : decode code 1252 = .ok (.iaload, 1) := by decide +kernel
theorem dL_law_1253 : decode code 1253 = .ok (.aload_n 0, 1) := by decide +kernel
theorem dL_law_1254 : decode code 1254 = .ok (.iload 4, 2) := by decide +kernel
theorem dL_law_1256 : decode code 1256 = .ok (.iconst 3, 1) := by decide +kernel
theorem dL_law_1257 : decode code 1257 = .ok (.iadd, 1) := by decide +kernel
theorem dL_law_1258 : decode code 1258 = .ok (.iaload, 1) := by decide +kernel
theorem dL_law_1259 : decode code 1259 = .ok (.ifCond .eq 7, 3) := by decide +kernel
theorem dL_law_1262 : decode code 1262 = .ok (.iconst 1, 1) := by decide +kernel
theorem dL_law_1263 : decode code 1263 = .ok (.goto 4, 3) := by decide +kernel
theorem dL_law_1266 : decode code 1266 = .ok (.iconst 0, 1) := by decide +kernel
theorem dL_law_1267 : decode code 1267 = .ok (.invokevirtual 131, 3) := by decide +kernel
theorem dL_law_1270 : decode code 1270 = .ok (.lcmp, 1) := by decide +kernel
theorem dL_law_1271 : decode code 1271 = .ok (.ifCond .eq 1524, 3) := by decide +kernel
theorem dL_law_1274 : decode code 1274 = .ok (.iconst 0, 1) := by decide +kernel
theorem dL_law_1275 : decode code 1275 = .ok (.ireturn, 1) := by decide +kernel
theorem dL_law_1276 : decode code 1276 = .ok (.aload_n 1, 1) := by decide +kernel
theorem dL_law_1277 : decode code 1277 = .ok (.aload_n 0, 1) := by decide +kernel
theorem dL_law_1278 : decode code 1278 = .ok (.iload 4, 2) := by decide +kernel
theorem dL_law_1280 : decode code 1280 = .ok (.iconst 1, 1) := by decide +kernel
theorem dL_law_1281 : decode code 1281 = .ok (.iadd, 1) := by decide +kernel
theorem dL_law_1282 : decode code 1282 = .ok (.iaload, 1) := by decide +kernel
theorem dL_law_1283 : decode code 1283 = .ok (.invokevirtual 132, 3) := by decide +kernel
theorem dL_law_1286 : decode code 1286 = .ok (.aload_n 2, 1) := by decide +kernel
theorem dL_law_1287 : decode code 1287 = .ok (.aload_n 0, 1) := by decide +kernel
theorem dL_law_1288 : decode code 1288 = .ok (.iload 4, 2) := by decide +kernel
theorem dL_law_1290 : decode code 1290 = .ok (.iconst 1, 1) := by decide +kernel
theorem dL_law_1291 : decode code 1291 = .ok (.iadd, 1) := by decide +kernel
theorem dL_law_1292 : decode code 1292 = .ok (.iaload, 1) := by decide +kernel
theorem dL_law_1293 : decode code 1293 = .ok (.invokevirtual 135, 3) := by decide +kernel
theorem dL_law_1296 : decode code 1296 = .ok (.if_icmp .eq 1499, 3) := by decide +kernel
theorem dL_law_1299 : decode code 1299 = .ok (.iconst 0, 1) := by decide +kernel
theorem dL_law_1300 : decode code 1300 = .ok (.ireturn, 1) := by decide +kernel
theorem dL_law_1301 : decode code 1301 = .ok (.aload_n 1, 1) := by decide +kernel
theorem dL_law_1302 : decode code 1302 = .ok (.aload_n 0, 1) := by decide +kernel
theorem dL_law_1303 : decode code 1303 = .ok (.iload 4, 2) := by decide +kernel
theorem dL_law_1305 : decode code 1305 = .ok (.iconst 1, 1) := by decide +kernel
theorem dL_law_1306 : decode code 1306 = .ok (.iadd, 1) := by decide +kernel
theorem dL_law_1307 : decode code 1307 = .ok (.iaload, 1) := by decide +kernel
theorem dL_law_1308 : decode code 1308 = .ok (.aload_n 0, 1) := by decide +kernel
theorem dL_law_1309 : decode code 1309 = .ok (.iload 4, 2) := by decide +kernel
theorem dL_law_1311 : decode code 1311 = .ok (.iconst 2, 1) := by decide +kernel
theorem dL_law_1312 : decode code 1312 = .ok (.iadd, 1) := by decide +kernel
theorem dL_law_1313 : decode code 1313 = .ok (.iaload, 1) := by decide +kernel
theorem dL_law_1314 : decode code 1314 = .ok (.ifCond .eq 7, 3) := by decide +kernel
theorem dL_law_1317 : decode code 1317 = .ok (.iconst 1, 1) := by decide +kernel
theorem dL_law_1318 : decode code 1318 = .ok (.goto 4, 3) := by decide +kernel
theorem dL_law_1321 : decode code 1321 = .ok (.iconst 0, 1) := by decide +kernel
theorem dL_law_1322 : decode code 1322 = .ok (.aload_n 0, 1) := by decide +kernel
theorem dL_law_1323 : decode code 1323 = .ok (.iload 4, 2) := by decide +kernel
theorem dL_law_1325 : decode code 1325 = .ok (.iconst 3, 1) := by decide +kernel
theorem dL_law_1326 : decode code 1326 = .ok (.iadd, 1) := by decide +kernel
theorem dL_law_1327 : decode code 1327 = .ok (.iaload, 1) := by decide +kernel
theorem dL_law_1328 : decode code 1328 = .ok (.ifCond .eq 7, 3) := by decide +kernel
theorem dL_law_1331 : decode code 1331 = .ok (.iconst 1, 1) := by decide +kernel
theorem dL_law_1332 : decode code 1332 = .ok (.goto 4, 3) := by decide +kernel
theorem dL_law_1335 : decode code 1335 = .ok (.iconst 0, 1) := by decide +kernel
theorem dL_law_1336 : decode code 1336 = .ok (.invokevirtual 136, 3) := by decide +kernel
theorem dL_law_1339 : decode code 1339 = .ok (.aload_n 2, 1) := by decide +kernel
theorem dL_law_1340 : decode code 1340 = .ok (.aload_n 0, 1) := by decide +kernel
theorem dL_law_1341 : decode code 1341 = .ok (.iload 4, 2) := by decide +kernel
theorem dL_law_1343 : decode code 1343 = .ok (.iconst 1, 1) := by decide +kernel
theorem dL_law_1344 : decode code 1344 = .ok (.iadd, 1) := by decide +kernel
theorem dL_law_1345 : decode code 1345 = .ok (.iaload, 1) := by decide +kernel
theorem dL_law_1346 : decode code 1346 = .ok (.aload_n 0, 1) := by decide +kernel
theorem dL_law_1347 : decode code 1347 = .ok (.iload 4, 2) := by decide +kernel
theorem dL_law_1349 : decode code 1349 = .ok (.iconst 2, 1) := by decide +kernel
theorem dL_law_1350 : decode code 1350 = .ok (.iadd, 1) := by decide +kernel
theorem dL_law_1351 : decode code 1351 = .ok (.iaload, 1) := by decide +kernel
theorem dL_law_1352 : decode code 1352 = .ok (.ifCond .eq 7, 3) := by decide +kernel
theorem dL_law_1355 : decode code 1355 = .ok (.iconst 1, 1) := by decide +kernel
theorem dL_law_1356 : decode code 1356 = .ok (.goto 4, 3) := by decide +kernel
theorem dL_law_1359 : decode code 1359 = .ok (.iconst 0, 1) := by decide +kernel
theorem dL_law_1360 : decode code 1360 = .ok (.aload_n 0, 1) := by decide +kernel
theorem dL_law_1361 : decode code 1361 = .ok (.iload 4, 2) := by decide +kernel
theorem dL_law_1363 : decode code 1363 = .ok (.iconst 3, 1) := by decide +kernel
theorem dL_law_1364 : decode code 1364 = .ok (.iadd, 1) := by decide +kernel
theorem dL_law_1365 : decode code 1365 = .ok (.iaload, 1) := by decide +kernel
theorem dL_law_1366 : decode code 1366 = .ok (.ifCond .eq 7, 3) := by decide +kernel
theorem dL_law_1369 : decode code 1369 = .ok (.iconst 1, 1) := by decide +kernel
theorem dL_law_1370 : decode code 1370 = .ok (.goto 4, 3) := by decide +kernel
theorem dL_law_1373 : decode code 1373 = .ok (.iconst 0, 1) := by decide +kernel
theorem dL_law_1374 : decode code 1374 = .ok (.invokevirtual 140, 3) := by decide +kernel
theorem dL_law_1377 : decode code 1377 = .ok (.lcmp, 1) := by decide +kernel
theorem dL_law_1378 : decode code 1378 = .ok (.ifCond .eq 1417, 3) := by decide +kernel
theorem dL_law_1381 : decode code 1381 = .ok (.iconst 0, 1) := by decide +kernel
theorem dL_law_1382 : decode code 1382 = .ok (.ireturn, 1) := by decide +kernel
theorem dL_law_1383 : decode code 1383 = .ok (.aload_n 1, 1) := by decide +kernel
theorem dL_law_1384 : decode code 1384 = .ok (.aload_n 0, 1) := by decide +kernel
theorem dL_law_1385 : decode code 1385 = .ok (.iload 4, 2) := by decide +kernel
theorem dL_law_1387 : decode code 1387 = .ok (.iconst 1, 1) := by decide +kernel
theorem dL_law_1388 : decode code 1388 = .ok (.iadd, 1) := by decide +kernel
theorem dL_law_1389 : decode code 1389 = .ok (.iaload, 1) := by decide +kernel
theorem dL_law_1390 : decode code 1390 = .ok (.aload_n 0, 1) := by decide +kernel
theorem dL_law_1391 : decode code 1391 = .ok (.iload 4, 2) := by decide +kernel
theorem dL_law_1393 : decode code 1393 = .ok (.iconst 2, 1) := by decide +kernel
theorem dL_law_1394 : decode code 1394 = .ok (.iadd, 1) := by decide +kernel
theorem dL_law_1395 : decode code 1395 = .ok (.iaload, 1) := by decide +kernel
theorem dL_law_1396 : decode code 1396 = .ok (.aload_n 0, 1) := by decide +kernel
theorem dL_law_1397 : decode code 1397 = .ok (.iload 4, 2) := by decide +kernel
theorem dL_law_1399 : decode code 1399 = .ok (.iconst 3, 1) := by decide +kernel
theorem dL_law_1400 : decode code 1400 = .ok (.iadd, 1) := by decide +kernel
theorem dL_law_1401 : decode code 1401 = .ok (.iaload, 1) := by decide +kernel
theorem dL_law_1402 : decode code 1402 = .ok (.aload_n 0, 1) := by decide +kernel
theorem dL_law_1403 : decode code 1403 = .ok (.iload 4, 2) := by decide +kernel
theorem dL_law_1405 : decode code 1405 = .ok (.iconst 4, 1) := by decide +kernel
theorem dL_law_1406 : decode code 1406 = .ok (.iadd, 1) := by decide +kernel
theorem dL_law_1407 : decode code 1407 = .ok (.iaload, 1) := by decide +kernel
theorem dL_law_1408 : decode code 1408 = .ok (.invokevirtual 141, 3) := by decide +kernel
theorem dL_law_1411 : decode code 1411 = .ok (.aload_n 2, 1) := by decide +kernel
theorem dL_law_1412 : decode code 1412 = .ok (.aload_n 0, 1) := by decide +kernel
theorem dL_law_1413 : decode code 1413 = .ok (.iload 4, 2) := by decide +kernel
theorem dL_law_1415 : decode code 1415 = .ok (.iconst 1, 1) := by decide +kernel
theorem dL_law_1416 : decode code 1416 = .ok (.iadd, 1) := by decide +kernel
theorem dL_law_1417 : decode code 1417 = .ok (.iaload, 1) := by decide +kernel
theorem dL_law_1418 : decode code 1418 = .ok (.aload_n 0, 1) := by decide +kernel
theorem dL_law_1419 : decode code 1419 = .ok (.iload 4, 2) := by decide +kernel
theorem dL_law_1421 : decode code 1421 = .ok (.iconst 2, 1) := by decide +kernel
theorem dL_law_1422 : decode code 1422 = .ok (.iadd, 1) := by decide +kernel
theorem dL_law_1423 : decode code 1423 = .ok (.iaload, 1) := by decide +kernel
theorem dL_law_1424 : decode code 1424 = .ok (.aload_n 0, 1) := by decide +kernel
theorem dL_law_1425 : decode code 1425 = .ok (.iload 4, 2) := by decide +kernel
theorem dL_law_1427 : decode code 1427 = .ok (.iconst 3, 1) := by decide +kernel
theorem dL_law_1428 : decode code 1428 = .ok (.iadd, 1) := by decide +kernel
theorem dL_law_1429 : decode code 1429 = .ok (.iaload, 1) := by decide +kernel
theorem dL_law_1430 : decode code 1430 = .ok (.aload_n 0, 1) := by decide +kernel
theorem dL_law_1431 : decode code 1431 = .ok (.iload 4, 2) := by decide +kernel
theorem dL_law_1433 : decode code 1433 = .ok (.iconst 4, 1) := by decide +kernel
theorem dL_law_1434 : decode code 1434 = .ok (.iadd, 1) := by decide +kernel
theorem dL_law_1435 : decode code 1435 = .ok (.iaload, 1) := by decide +kernel
theorem dL_law_1436 : decode code 1436 = .ok (.invokevirtual 144, 3) := by decide +kernel
theorem dL_law_1439 : decode code 1439 = .ok (.lcmp, 1) := by decide +kernel
theorem dL_law_1440 : decode code 1440 = .ok (.ifCond .eq 1355, 3) := by decide +kernel
theorem dL_law_1443 : decode code 1443 = .ok (.iconst 0, 1) := by decide +kernel
theorem dL_law_1444 : decode code 1444 = .ok (.ireturn, 1) := by decide +kernel
theorem dL_law_1445 : decode code 1445 = .ok (.aload_n 1, 1) := by decide +kernel
theorem dL_law_1446 : decode code 1446 = .ok (.aload_n 0, 1) := by decide +kernel
theorem dL_law_1447 : decode code 1447 = .ok (.iload 4, 2) := by decide +kernel
theorem dL_law_1449 : decode code 1449 = .ok (.iconst 1, 1) := by decide +kernel
theorem dL_law_1450 : decode code 1450 = .ok (.iadd, 1) := by decide +kernel
theorem dL_law_1451 : decode code 1451 = .ok (.iaload, 1) := by decide +kernel
theorem dL_law_1452 : decode code 1452 = .ok (.aload_n 0, 1) := by decide +kernel
theorem dL_law_1453 : decode code 1453 = .ok (.iload 4, 2) := by decide +kernel
theorem dL_law_1455 : decode code 1455 = .ok (.iconst 2, 1) := by decide +kernel
theorem dL_law_1456 : decode code 1456 = .ok (.iadd, 1) := by decide +kernel
theorem dL_law_1457 : decode code 1457 = .ok (.iaload, 1) := by decide +kernel
theorem dL_law_1458 : decode code 1458 = .ok (.invokevirtual 145, 3) := by decide +kernel
theorem dL_law_1461 : decode code 1461 = .ok (.aload_n 2, 1) := by decide +kernel
theorem dL_law_1462 : decode code 1462 = .ok (.aload_n 0, 1) := by decide +kernel
theorem dL_law_1463 : decode code 1463 = .ok (.iload 4, 2) := by decide +kernel
theorem dL_law_1465 : decode code 1465 = .ok (.iconst 1, 1) := by decide +kernel
theorem dL_law_1466 : decode code 1466 = .ok (.iadd, 1) := by decide +kernel
theorem dL_law_1467 : decode code 1467 = .ok (.iaload, 1) := by decide +kernel
theorem dL_law_1468 : decode code 1468 = .ok (.aload_n 0, 1) := by decide +kernel
theorem dL_law_1469 : decode code 1469 = .ok (.iload 4, 2) := by decide +kernel
theorem dL_law_1471 : decode code 1471 = .ok (.iconst 2, 1) := by decide +kernel
theorem dL_law_1472 : decode code 1472 = .ok (.iadd, 1) := by decide +kernel
theorem dL_law_1473 : decode code 1473 = .ok (.iaload, 1) := by decide +kernel
theorem dL_law_1474 : decode code 1474 = .ok (.invokevirtual 148, 3) := by decide +kernel
theorem dL_law_1477 : decode code 1477 = .ok (.if_icmp .eq 1318, 3) := by decide +kernel
theorem dL_law_1480 : decode code 1480 = .ok (.iconst 0, 1) := by decide +kernel
theorem dL_law_1481 : decode code 1481 = .ok (.ireturn, 1) := by decide +kernel
theorem dL_law_1482 : decode code 1482 = .ok (.aload_n 1, 1) := by decide +kernel
theorem dL_law_1483 : decode code 1483 = .ok (.aload_n 0, 1) := by decide +kernel
theorem dL_law_1484 : decode code 1484 = .ok (.iload 4, 2) := by decide +kernel
theorem dL_law_1486 : decode code 1486 = .ok (.iconst 1, 1) := by decide +kernel
theorem dL_law_1487 : decode code 1487 = .ok (.iadd, 1) := by decide +kernel
theorem dL_law_1488 : decode code 1488 = .ok (.iaload, 1) := by decide +kernel
theorem dL_law_1489 : decode code 1489 = .ok (.aload_n 0, 1) := by decide +kernel
theorem dL_law_1490 : decode code 1490 = .ok (.iload 4, 2) := by decide +kernel
theorem dL_law_1492 : decode code 1492 = .ok (.iconst 2, 1) := by decide +kernel
theorem dL_law_1493 : decode code 1493 = .ok (.iadd, 1) := by decide +kernel
theorem dL_law_1494 : decode code 1494 = .ok (.iaload, 1) := by decide +kernel
theorem dL_law_1495 : decode code 1495 = .ok (.invokevirtual 149, 3) := by decide +kernel
theorem dL_law_1498 : decode code 1498 = .ok (.aload_n 2, 1) := by decide +kernel
theorem dL_law_1499 : decode code 1499 = .ok (.aload_n 0, 1) := by decide +kernel
theorem dL_law_1500 : decode code 1500 = .ok (.iload 4, 2) := by decide +kernel
theorem dL_law_1502 : decode code 1502 = .ok (.iconst 1, 1) := by decide +kernel
theorem dL_law_1503 : decode code 1503 = .ok (.iadd, 1) := by decide +kernel
theorem dL_law_1504 : decode code 1504 = .ok (.iaload, 1) := by decide +kernel
theorem dL_law_1505 : decode code 1505 = .ok (.aload_n 0, 1) := by decide +kernel
theorem dL_law_1506 : decode code 1506 = .ok (.iload 4, 2) := by decide +kernel
theorem dL_law_1508 : decode code 1508 = .ok (.iconst 2, 1) := by decide +kernel
theorem dL_law_1509 : decode code 1509 = .ok (.iadd, 1) := by decide +kernel
theorem dL_law_1510 : decode code 1510 = .ok (.iaload, 1) := by decide +kernel
theorem dL_law_1511 : decode code 1511 = .ok (.invokevirtual 152, 3) := by decide +kernel
theorem dL_law_1514 : decode code 1514 = .ok (.if_icmp .eq 1281, 3) := by decide +kernel
theorem dL_law_1517 : decode code 1517 = .ok (.iconst 0, 1) := by decide +kernel
theorem dL_law_1518 : decode code 1518 = .ok (.ireturn, 1) := by decide +kernel
theorem dL_law_1519 : decode code 1519 = .ok (.aload_n 1, 1) := by decide +kernel
theorem dL_law_1520 : decode code 1520 = .ok (.aload_n 0, 1) := by decide +kernel
theorem dL_law_1521 : decode code 1521 = .ok (.iload 4, 2) := by decide +kernel
theorem dL_law_1523 : decode code 1523 = .ok (.iconst 1, 1) := by decide +kernel
theorem dL_law_1524 : decode code 1524 = .ok (.iadd, 1) := by decide +kernel
theorem dL_law_1525 : decode code 1525 = .ok (.iaload, 1) := by decide +kernel
theorem dL_law_1526 : decode code 1526 = .ok (.aload_n 0, 1) := by decide +kernel
theorem dL_law_1527 : decode code 1527 = .ok (.iload 4, 2) := by decide +kernel
theorem dL_law_1529 : decode code 1529 = .ok (.iconst 2, 1) := by decide +kernel
theorem dL_law_1530 : decode code 1530 = .ok (.iadd, 1) := by decide +kernel
theorem dL_law_1531 : decode code 1531 = .ok (.iaload, 1) := by decide +kernel
theorem dL_law_1532 : decode code 1532 = .ok (.aload_n 0, 1) := by decide +kernel
theorem dL_law_1533 : decode code 1533 = .ok (.iload 4, 2) := by decide +kernel
theorem dL_law_1535 : decode code 1535 = .ok (.iconst 3, 1) := by decide +kernel
theorem dL_law_1536 : decode code 1536 = .ok (.iadd, 1) := by decide +kernel
theorem dL_law_1537 : decode code 1537 = .ok (.iaload, 1) := by decide +kernel
theorem dL_law_1538 : decode code 1538 = .ok (.aload_n 0, 1) := by decide +kernel
theorem dL_law_1539 : decode code 1539 = .ok (.iload 4, 2) := by decide +kernel
theorem dL_law_1541 : decode code 1541 = .ok (.iconst 4, 1) := by decide +kernel
theorem dL_law_1542 : decode code 1542 = .ok (.iadd, 1) := by decide +kernel
theorem dL_law_1543 : decode code 1543 = .ok (.iaload, 1) := by decide +kernel
theorem dL_law_1544 : decode code 1544 = .ok (.aload_n 0, 1) := by decide +kernel
