theorem dL_law_1250 : decode code 1250 = .ok (.iconst 1, 1) := by decide +kernel
theorem dL_law_1251 : decode code 1251 = .ok (.iadd, 1) := by decide +kernel
theorem dL_law_1252 : decode code 1252 = .ok (.iaload, 1) := by decide +kernel
theorem dL_law_1253 : decode code 1253 = .ok (.aload_n 0, 1) := by decide +kernel
theorem dL_law_1254 : decode code 1254 = .ok (.iload 4, 2) := by decide +kernel
theorem dL_law_1256 : decode code 1256 = .ok (.iconst 2, 1) := by decide +kernel
theorem dL_law_1257 : decode code 1257 = .ok (.iadd, 1) := by decide +kernel
theorem dL_law_1258 : decode code 1258 = .ok (.iaload, 1) := by decide +kernel
theorem dL_law_1259 : decode code 1259 = .ok (.aload_n 0, 1) := by decide +kernel
theorem dL_law_1260 : decode code 1260 = .ok (.iload 4, 2) := by decide +kernel
theorem dL_law_1262 : decode code 1262 = .ok (.iconst 3, 1) := by decide +kernel
theorem dL_law_1263 : decode code 1263 = .ok (.iadd, 1) := by decide +kernel
theorem dL_law_1264 : decode code 1264 = .ok (.iaload, 1) := by decide +kernel
theorem dL_law_1265 : decode code 1265 = .ok (.invokevirtual 117, 3) := by decide +kernel
theorem dL_law_1268 : decode code 1268 = .ok (.if_icmp .eq 1144, 3) := by decide +kernel
theorem dL_law_1271 : decode code 1271 = .ok (.iconst 0, 1) := by decide +kernel
theorem dL_law_1272 : decode code 1272 = .ok (.ireturn, 1) := by decide +kernel
theorem dL_law_1273 : decode code 1273 = .ok (.aload_n 1, 1) := by decide +kernel
theorem dL_law_1274 : decode code 1274 = .ok (.aload_n 0, 1) := by decide +kernel
theorem dL_law_1275 : decode code 1275 = .ok (.iload 4, 2) := by decide +kernel
theorem dL_law_1277 : decode code 1277 = .ok (.iconst 1, 1) := by decide +kernel
theorem dL_law_1278 : decode code 1278 = .ok (.iadd, 1) := by decide +kernel
theorem dL_law_1279 : decode code 1279 = .ok (.iaload, 1) := by decide +kernel
theorem dL_law_1280 : decode code 1280 = .ok (.aload_n 0, 1) := by decide +kernel
theorem dL_law_1281 : decode code 1281 = .ok (.iload 4, 2) := by decide +kernel
theorem dL_law_1283 : decode code 1283 = .ok (.iconst 2, 1) := by decide +kernel
theorem dL_law_1284 : decode code 1284 = .ok (.iadd, 1) := by decide +kernel
theorem dL_law_1285 : decode code 1285 = .ok (.iaload, 1) := by decide +kernel
theorem dL_law_1286 : decode code 1286 = .ok (.aload_n 0, 1) := by decide +kernel
theorem dL_law_1287 : decode code 1287 = .ok (.iload 4, 2) := by decide +kernel
theorem dL_law_1289 : decode code 1289 = .ok (.iconst 3, 1) := by decide +kernel
theorem dL_law_1290 : decode code 1290 = .ok (.iadd, 1) := by decide +kernel
theorem dL_law_1291 : decode code 1291 = .ok (.iaload, 1) := by decide +kernel
theorem dL_law_1292 : decode code 1292 = .ok (.invokevirtual 118, 3) := by decide +kernel
theorem dL_law_1295 : decode code 1295 = .ok (.aload_n 2, 1) := by decide +kernel
theorem dL_law_1296 : decode code 1296 = .ok (.aload_n 0, 1) := by decide +kernel
theorem dL_law_1297 : decode code 1297 = .ok (.iload 4, 2) := by decide +kernel
theorem dL_law_1299 : decode code 1299 = .ok (.iconst 1, 1) := by decide +kernel
theorem dL_law_1300 : decode code 1300 = .ok (.iadd, 1) := by decide +kernel
theorem dL_law_1301 : decode code 1301 = .ok (.iaload, 1) := by decide +kernel
theorem dL_law_1302 : decode code 1302 = .ok (.aload_n 0, 1) := by decide +kernel
theorem dL_law_1303 : decode code 1303 = .ok (.iload 4, 2) := by decide +kernel
theorem dL_law_1305 : decode code 1305 = .ok (.iconst 2, 1) := by decide +kernel
theorem dL_law_1306 : decode code 1306 = .ok (.iadd, 1) := by decide +kernel
theorem dL_law_1307 : decode code 1307 = .ok (.iaload, 1) := by decide +kernel
theorem dL_law_1308 : decode code 1308 = .ok (.aload_n 0, 1) := by decide +kernel
theorem dL_law_1309 : decode code 1309 = .ok (.iload 4, 2) := by decide +kernel
theorem dL_law_1311 : decode code 1311 = .ok (.iconst 3, 1) := by decide +kernel
theorem dL_law_1312 : decode code 1312 = .ok (.iadd, 1) := by decide +kernel
theorem dL_law_1313 : decode code 1313 = .ok (.iaload, 1) := by decide +kernel
theorem dL_law_1314 : decode code 1314 = .ok (.invokevirtual 121, 3) := by decide +kernel
theorem dL_law_1317 : decode code 1317 = .ok (.if_icmp .eq 1095, 3) := by decide +kernel
theorem dL_law_1320 : decode code 1320 = .ok (.iconst 0, 1) := by decide +kernel
theorem dL_law_1321 : decode code 1321 = .ok (.ireturn, 1) := by decide +kernel
theorem dL_law_1322 : decode code 1322 = .ok (.aload_n 1, 1) := by decide +kernel
theorem dL_law_1323 : decode code 1323 = .ok (.aload_n 0, 1) := by decide +kernel
theorem dL_law_1324 : decode code 1324 = .ok (.iload 4, 2) := by decide +kernel
theorem dL_law_1326 : decode code 1326 = .ok (.iconst 1, 1) := by decide +kernel
theorem dL_law_1327 : decode code 1327 = .ok (.iadd, 1) := by decide +kernel
theorem dL_law_1328 : decode code 1328 = .ok (.iaload, 1) := by decide +kernel
theorem dL_law_1329 : decode code 1329 = .ok (.aload_n 0, 1) := by decide +kernel
theorem dL_law_1330 : decode code 1330 = .ok (.iload 4, 2) := by decide +kernel
theorem dL_law_1332 : decode code 1332 = .ok (.iconst 2, 1) := by decide +kernel
theorem dL_law_1333 : decode code 1333 = .ok (.iadd, 1) := by decide +kernel
theorem dL_law_1334 : decode code 1334 = .ok (.iaload, 1) := by decide +kernel
theorem dL_law_1335 : decode code 1335 = .ok (.aload_n 0, 1) := by decide +kernel
theorem dL_law_1336 : decode code 1336 = .ok (.iload 4, 2) := by decide +kernel
theorem dL_law_1338 : decode code 1338 = .ok (.iconst 3, 1) := by decide +kernel
theorem dL_law_1339 : decode code 1339 = .ok (.iadd, 1) := by decide +kernel
theorem dL_law_1340 : decode code 1340 = .ok (.iaload, 1) := by decide +kernel
theorem dL_law_1341 : decode code 1341 = .ok (.aload_n 0, 1) := by decide +kernel
theorem dL_law_1342 : decode code 1342 = .ok (.iload 4, 2) := by decide +kernel
theorem dL_law_1344 : decode code 1344 = .ok (.iconst 4, 1) := by decide +kernel
theorem dL_law_1345 : decode code 1345 = .ok (.iadd, 1) := by decide +kernel
theorem dL_law_1346 : decode code 1346 = .ok (.iaload, 1) := by decide +kernel
theorem dL_law_1347 : decode code 1347 = .ok (.invokevirtual 122, 3) := by decide +kernel
theorem dL_law_1350 : decode code 1350 = .ok (.aload_n 2, 1) := by decide +kernel
theorem dL_law_1351 : decode code 1351 = .ok (.aload_n 0, 1) := by decide +kernel
theorem dL_law_1352 : decode code 1352 = .ok (.iload 4, 2) := by decide +kernel
theorem dL_law_1354 : decode code 1354 = .ok (.iconst 1, 1) := by decide +kernel
theorem dL_law_1355 : decode code 1355 = .ok (.iadd, 1) := by decide +kernel
theorem dL_law_1356 : decode code 1356 = .ok (.iaload, 1) := by decide +kernel
theorem dL_law_1357 : decode code 1357 = .ok (.aload_n 0, 1) := by decide +kernel
theorem dL_law_1358 : decode code 1358 = .ok (.iload 4, 2) := by decide +kernel
theorem dL_law_1360 : decode code 1360 = .ok (.iconst 2, 1) := by decide +kernel
theorem dL_law_1361 : decode code 1361 = .ok (.iadd, 1) := by decide +kernel
theorem dL_law_1362 : decode code 1362 = .ok (.iaload, 1) := by decide +kernel
theorem dL_law_1363 : decode code 1363 = .ok (.aload_n 0, 1) := by decide +kernel
theorem dL_law_1364 : decode code 1364 = .ok (.iload 4, 2) := by decide +kernel
theorem dL_law_1366 : decode code 1366 = .ok (.iconst 3, 1) := by decide +kernel
theorem dL_law_1367 : decode code 1367 = .ok (.iadd, 1) := by decide +kernel
theorem dL_law_1368 : decode code 1368 = .ok (.iaload, 1) := by decide +kernel
theorem dL_law_1369 : decode code 1369 = .ok (.aload_n 0, 1) := by decide +kernel
theorem dL_law_1370 : decode code 1370 = .ok (.iload 4, 2) := by decide +kernel
theorem dL_law_1372 : decode code 1372 = .ok (.iconst 4, 1) := by decide +kernel
theorem dL_law_1373 : decode code 1373 = .ok (.iadd, 1) := by decide +kernel
theorem dL_law_1374 : decode code 1374 = .ok (.iaload, 1) := by decide +kernel
theorem dL_law_1375 : decode code 1375 = .ok (.invokevirtual 125, 3) := by decide +kernel
theorem dL_law_1378 : decode code 1378 = .ok (.if_icmp .eq 1034, 3) := by decide +kernel
theorem dL_law_1381 : decode code 1381 = .ok (.iconst 0, 1) := by decide +kernel
theorem dL_law_1382 : decode code 1382 = .ok (.ireturn, 1) := by decide +kernel
theorem dL_law_1383 : decode code 1383 = .ok (.aload_n 1, 1) := by decide +kernel
theorem dL_law_1384 : decode code 1384 = .ok (.aload_n 0, 1) := by decide +kernel
theorem dL_law_1385 : decode code 1385 = .ok (.iload 4, 2) := by decide +kernel
theorem dL_law_1387 : decode code 1387 = .ok (.iconst 1, 1) := by decide +kernel
theorem dL_law_1388 : decode code 1388 = .ok (.iadd, 1) := by decide +kernel
theorem dL_law_1389 : decode code 1389 = .ok (.iaload, 1) := by decide +kernel
theorem dL_law_1390 : decode code 1390 = .ok (.aload_n 0, 1) := by decide +kernel
theorem dL_law_1391 : decode code 1391 = .ok (.iload 4, 2) := by decide +kernel
theorem dL_law_1393 : decode code 1393 = .ok (.iconst 2, 1) := by decide +kernel
theorem dL_law_1394 : decode code 1394 = .ok (.iadd, 1) := by decide +kernel
theorem dL_law_1395 : decode code 1395 = .ok (.iaload, 1) := by decide +kernel
theorem dL_law_1396 : decode code 1396 = .ok (.aload_n 0, 1) := by decide +kernel
theorem dL_law_1397 : decode code 1397 = .ok (.iload 4, 2) := by decide +kernel
theorem dL_law_1399 : decode code 1399 = .ok (.iconst 3, 1) := by decide +kernel
theorem dL_law_1400 : decode code 1400 = .ok (.iadd, 1) := by decide +kernel
theorem dL_law_1401 : decode code 1401 = .ok (.iaload, 1) := by decide +kernel
theorem dL_law_1402 : decode code 1402 = .ok (.invokevirtual 126, 3) := by decide +kernel
theorem dL_law_1405 : decode code 1405 = .ok (.aload_n 2, 1) := by decide +kernel
theorem dL_law_1406 : decode code 1406 = .ok (.aload_n 0, 1) := by decide +kernel
theorem dL_law_1407 : decode code 1407 = .ok (.iload 4, 2) := by decide +kernel
theorem dL_law_1409 : decode code 1409 = .ok (.iconst 1, 1) := by decide +kernel
theorem dL_law_1410 : decode code 1410 = .ok (.iadd, 1) := by decide +kernel
theorem dL_law_1411 : decode code 1411 = .ok (.iaload, 1) := by decide +kernel
theorem dL_law_1412 : decode code 1412 = .ok (.aload_n 0, 1) := by decide +kernel
theorem dL_law_1413 : decode code 1413 = .ok (.iload 4, 2) := by decide +kernel
theorem dL_law_1415 : decode code 1415 = .ok (.iconst 2, 1) := by decide +kernel
theorem dL_law_1416 : decode code 1416 = .ok (.iadd, 1) := by decide +kernel
theorem dL_law_1417 : decode code 1417 = .ok (.iaload, 1) := by decide +kernel
theorem dL_law_1418 : decode code 1418 = .ok (.aload_n 0, 1) := by decide +kernel
theorem dL_law_1419 : decode code 1419 = .ok (.iload 4, 2) := by decide +kernel
theorem dL_law_1421 : decode code 1421 = .ok (.iconst 3, 1) := by decide +kernel
theorem dL_law_1422 : decode code 1422 = .ok (.iadd, 1) := by decide +kernel
theorem dL_law_1423 : decode code 1423 = .ok (.iaload, 1) := by decide +kernel
theorem dL_law_1424 : decode code 1424 = .ok (.invokevirtual 129, 3) := by decide +kernel
theorem dL_law_1427 : decode code 1427 = .ok (.if_icmp .eq 985, 3) := by decide +kernel
theorem dL_law_1430 : decode code 1430 = .ok (.iconst 0, 1) := by decide +kernel
theorem dL_law_1431 : decode code 1431 = .ok (.ireturn, 1) := by decide +kernel
theorem dL_law_1432 : decode code 1432 = .ok (.aload_n 1, 1) := by decide +kernel
theorem dL_law_1433 : decode code 1433 = .ok (.aload_n 0, 1) := by decide +kernel
theorem dL_law_1434 : decode code 1434 = .ok (.iload 4, 2) := by decide +kernel
theorem dL_law_1436 : decode code 1436 = .ok (.iconst 1, 1) := by decide +kernel
theorem dL_law_1437 : decode code 1437 = .ok (.iadd, 1) := by decide +kernel
theorem dL_law_1438 : decode code 1438 = .ok (.iaload, 1) := by decide +kernel
theorem dL_law_1439 : decode code 1439 = .ok (.aload_n 0, 1) := by decide +kernel
theorem dL_law_1440 : decode code 1440 = .ok (.iload 4, 2) := by decide +kernel
theorem dL_law_1442 : decode code 1442 = .ok (.iconst 2, 1) := by decide +kernel
theorem dL_law_1443 : decode code 1443 = .ok (.iadd, 1) := by decide +kernel
theorem dL_law_1444 : decode code 1444 = .ok (.iaload, 1) := by decide +kernel
theorem dL_law_1445 : decode code 1445 = .ok (.aload_n 0, 1) := by decide +kernel
theorem dL_law_1446 : decode code 1446 = .ok (.iload 4, 2) := by decide +kernel
theorem dL_law_1448 : decode code 1448 = .ok (.iconst 3, 1) := by decide +kernel
theorem dL_law_1449 : decode code 1449 = .ok (.iadd, 1) := by decide +kernel
theorem dL_law_1450 : decode code 1450 = .ok (.iaload, 1) := by decide +kernel
theorem dL_law_1451 : decode code 1451 = .ok (.invokevirtual 130, 3) := by decide +kernel
theorem dL_law_1454 : decode code 1454 = .ok (.aload_n 2, 1) := by decide +kernel
theorem dL_law_1455 : decode code 1455 = .ok (.aload_n 0, 1) := by decide +kernel
theorem dL_law_1456 : decode code 1456 = .ok (.iload 4, 2) := by decide +kernel
theorem dL_law_1458 : decode code 1458 = .ok (.iconst 1, 1) := by decide +kernel
theorem dL_law_1459 : decode code 1459 = .ok (.iadd, 1) := by decide +kernel
theorem dL_law_1460 : decode code 1460 = .ok (.iaload, 1) := by decide +kernel
theorem dL_law_1461 : decode code 1461 = .ok (.aload_n 0, 1) := by decide +kernel
theorem dL_law_1462 : decode code 1462 = .ok (.iload 4, 2) := by decide +kernel
theorem dL_law_1464 : decode code 1464 = .ok (.iconst 2, 1) := by decide +kernel
theorem dL_law_1465 : decode code 1465 = .ok (.iadd, 1) := by decide +kernel
theorem dL_law_1466 : decode code 1466 = .ok (.iaload, 1) := by decide +kernel
theorem dL_law_1467 : decode code 1467 = .ok (.aload_n 0, 1) := by decide +kernel
theorem dL_law_1468 : decode code 1468 = .ok (.iload 4, 2) := by decide +kernel
theorem dL_law_1470 : decode code 1470 = .ok (.iconst 3, 1) := by decide +kernel
theorem dL_law_1471 : decode code 1471 = .ok (.iadd, 1) := by decide +kernel
theorem dL_law_1472 : decode code 1472 = .ok (.iaload, 1) := by decide +kernel
theorem dL_law_1473 : decode code 1473 = .ok (.invokevirtual 133, 3) := by decide +kernel
theorem dL_law_1476 : decode code 1476 = .ok (.if_icmp .eq 936, 3) := by decide +kernel
theorem dL_law_1479 : decode code 1479 = .ok (.iconst 0, 1) := by decide +kernel
theorem dL_law_1480 : decode code 1480 = .ok (.ireturn, 1) := by decide +kernel
theorem dL_law_1481 : decode code 1481 = .ok (.aload_n 1, 1) := by decide +kernel
theorem dL_law_1482 : decode code 1482 = .ok (.aload_n 0, 1) := by decide +kernel
theorem dL_law_1483 : decode code 1483 = .ok (.iload 4, 2) := by decide +kernel
theorem dL_law_1485 : decode code 1485 = .ok (.iconst 1, 1) := by decide +kernel
theorem dL_law_1486 : decode code 1486 = .ok (.iadd, 1) := by decide +kernel
theorem dL_law_1487 : decode code 1487 = .ok (.iaload, 1) := by decide +kernel
theorem dL_law_1488 : decode code 1488 = .ok (.aload_n 0, 1) := by decide +kernel
theorem dL_law_1489 : decode code 1489 = .ok (.iload 4, 2) := by decide +kernel
theorem dL_law_1491 : decode code 1491 = .ok (.iconst 2, 1) := by decide +kernel
theorem dL_law_1492 : decode code 1492 = .ok (.iadd, 1) := by decide +kernel
theorem dL_law_1493 : decode code 1493 = .ok (.iaload, 1) := by decide +kernel
theorem dL_law_1494 : decode code 1494 = .ok (.invokevirtual 134, 3) := by decide +kernel
theorem dL_law_1497 : decode code 1497 = .ok (.aload_n 2, 1) := by decide +kernel
theorem dL_law_1498 : decode code 1498 = .ok (.aload_n 0, 1) := by decide +kernel
theorem dL_law_1499 : decode code 1499 = .ok (.iload 4, 2) := by decide +kernel
theorem dL_law_1501 : decode code 1501 = .ok (.iconst 1, 1) := by decide +kernel
theorem dL_law_1502 : decode code 1502 = .ok (.iadd, 1) := by decide +kernel
theorem dL_law_1503 : decode code 1503 = .ok (.iaload, 1) := by decide +kernel
theorem dL_law_1504 : decode code 1504 = .ok (.aload_n 0, 1) := by decide +kernel
theorem dL_law_1505 : decode code 1505 = .ok (.iload 4, 2) := by decide +kernel
theorem dL_law_1507 : decode code 1507 = .ok (.iconst 2, 1) := by decide +kernel
theorem dL_law_1508 : decode code 1508 = .ok (.iadd, 1) := by decide +kernel
theorem dL_law_1509 : decode code 1509 = .ok (.iaload, 1) := by decide +kernel
theorem dL_law_1510 : decode code 1510 = .ok (.invokevirtual 137, 3) := by decide +kernel
theorem dL_law_1513 : decode code 1513 = .ok (.if_icmp .eq 899, 3) := by decide +kernel
theorem dL_law_1516 : decode code 1516 = .ok (.iconst 0, 1) := by decide +kernel
theorem dL_law_1517 : decode code 1517 = .ok (.ireturn, 1) := by decide +kernel
theorem dL_law_1518 : decode code 1518 = .ok (.aload_n 1, 1) := by decide +kernel
theorem dL_law_1519 : decode code 1519 = .ok (.aload_n 0, 1) := by decide +kernel
theorem dL_law_1520 : decode code 1520 = .ok (.iload 4, 2) := by decide +kernel
theorem dL_law_1522 : decode code 1522 = .ok (.iconst 1, 1) := by decide +kernel
theorem dL_law_1523 : decode code 1523 = .ok (.iadd, 1) := by decide +kernel
theorem dL_law_1524 : decode code 1524 = .ok (.iaload, 1) := by decide +kernel
theorem dL_law_1525 : decode code 1525 = .ok (.aload_n 0, 1) := by decide +kernel
theorem dL_law_1526 : decode code 1526 = .ok (.iload 4, 2) := by decide +kernel
theorem dL_law_1528 : decode code 1528 = .ok (.iconst 2, 1) := by decide +kernel
theorem dL_law_1529 : decode code 1529 = .ok (.iadd, 1) := by decide +kernel
theorem dL_law_1530 : decode code 1530 = .ok (.iaload, 1) := by decide +kernel
theorem dL_law_1531 : decode code 1531 = .ok (.aload_n 0, 1) := by decide +kernel
theorem dL_law_1532 : decode code 1532 = .ok (.iload 4, 2) := by decide +kernel
theorem dL_law_1534 : decode code 1534 = .ok (.iconst 3, 1) := by decide +kernel
theorem dL_law_1535 : decode code 1535 = .ok (.iadd, 1) := by decide +kernel
theorem dL_law_1536 : decode code 1536 = .ok (.iaload, 1) := by decide +kernel
theorem dL_law_1537 : decode code 1537 = .ok (.invokevirtual 138, 3) := by decide +kernel
theorem dL_law_1540 : decode code 1540 = .ok (.aload_n 2, 1) := by decide +kernel
theorem dL_law_1541 : decode code 1541 = .ok (.aload_n 0, 1) := by decide +kernel
theorem dL_law_1542 : decode code 1542 = .ok (.iload 4, 2) := by decide +kernel
theorem dL_law_1544 : decode code 1544 = .ok (.iconst 1, 1) := by decide +kernel
theorem dL_law_1545 : decode code 1545 = .ok (.iadd, 1) := by decide +kernel
theorem dL_law_1546 : decode code 1546 = .ok (.iaload, 1) := by decide +kernel
theorem dL_law_1547 : decode code 1547 = .ok (.aload_n 0, 1) := by decide +kernel
theorem dL_law_1548 : decode code 1548 = .ok (.iload 4, 2) := by decide +kernel
theorem dL_law_1550 : decode code 1550 = .ok (.iconst 2, 1) := by decide +kernel
theorem dL_law_1551 : decode code 1551 = .ok (.iadd, 1) := by decide +kernel
theorem dL_law_1552 : decode code 1552 = .ok (.iaload, 1) := by decide +kernel
theorem dL_law_1553 : decode code 1553 = .ok (.aload_n 0, 1) := by decide +kernel
theorem dL_law_1554 : decode code 1554 = .ok (.iload 4, 2) := by decide +kernel
theorem dL_law_1556 : decode code 1556 = .ok (.iconst 3, 1) := by decide +kernel
theorem dL_law_1557 : decode code 1557 = .ok (.iadd, 1) := by decide +kernel
theorem dL_law_1558 : decode code 1558 = .ok (.iaload, 1) := by decide +kernel
theorem dL_law_1559 : decode code 1559 = .ok (.invokevirtual 141, 3) := by decide +kernel
theorem dL_law_1562 : decode code 1562 = .ok (.if_icmp .eq 850, 3) := by decide +kernel
theorem dL_law_1565 : decode code 1565 = .ok (.iconst 0, 1) := by decide +kernel
theorem dL_law_1566 : decode code 1566 = .ok (.ireturn, 1) := by decide +kernel
theorem dL_law_1567 : decode code 1567 = .ok (.aload_n 1, 1) := by decide +kernel
theorem dL_law_1568 : decode code 1568 = .ok (.aload_n 0, 1) := by decide +kernel
theorem dL_law_1569 : decode code 1569 = .ok (.iload 4, 2) := by decide +kernel
theorem dL_law_1571 : decode code 1571 = .ok (.iconst 1, 1) := by decide +kernel
theorem dL_law_1572 : decode code 1572 = .ok (.iadd, 1) := by decide +kernel
theorem dL_law_1573 : decode code 1573 = .ok (.iaload, 1) := by decide +kernel
theorem dL_law_1574 : decode code 1574 = .ok (.aload_n 0, 1) := by decide +kernel
theorem dL_law_1575 : decode code 1575 = .ok (.iload 4, 2) := by decide +kernel
theorem dL_law_1577 : decode code 1577 = .ok (.iconst 2, 1) := by decide +kernel
theorem dL_law_1578 : decode code 1578 = .ok (.iadd, 1) := by decide +kernel
theorem dL_law_1579 : decode code 1579 = .ok (.iaload, 1) := by decide +kernel
theorem dL_law_1580 : decode code 1580 = .ok (.aload_n 0, 1) := by decide +kernel
theorem dL_law_1581 : decode code 1581 = .ok (.iload 4, 2) := by decide +kernel
theorem dL_law_1583 : decode code 1583 = .ok (.iconst 3, 1) := by decide +kernel
theorem dL_law_1584 : decode code 1584 = .ok (.iadd, 1) := by decide +kernel
theorem dL_law_1585 : decode code 1585 = .ok (.iaload, 1) := by decide +kernel
theorem dL_law_1586 : decode code 1586 = .ok (.invokevirtual 142, 3) := by decide +kernel
theorem dL_law_1589 : decode code 1589 = .ok (.aload_n 2, 1) := by decide +kernel
theorem dL_law_1590 : decode code 1590 = .ok (.aload_n 0, 1) := by decide +kernel
theorem dL_law_1591 : decode code 1591 = .ok (.iload 4, 2) := by decide +kernel
theorem dL_law_1593 : decode code 1593 = .ok (.iconst 1, 1) := by decide +kernel
theorem dL_law_1594 : decode code 1594 = .ok (.iadd, 1) := by decide +kernel
theorem dL_law_1595 : decode code 1595 = .ok (.iaload, 1) := by decide +kernel
theorem dL_law_1596 : decode code 1596 = .ok (.aload_n 0, 1) := by decide +kernel
theorem dL_law_1597 : decode code 1597 = .ok (.iload 4, 2) := by decide +kernel
theorem dL_law_1599 : decode code 1599 = .ok (.iconst 2, 1) := by decide +kernel
theorem dL_law_1600 : decode code 1600 = .ok (.iadd, 1) := by decide +kernel
theorem dL_law_1601 : decode code 1601 = .ok (.iaload, 1) := by decide +kernel
theorem dL_law_1602 : decode code 1602 = .ok (.aload_n 0, 1) := by decide +kernel
theorem dL_law_1603 : decode code 1603 = .ok (.iload 4, 2) := by decide +kernel
theorem dL_law_1605 : decode code 1605 = .ok (.iconst 3, 1) := by decide +kernel
theorem dL_law_1606 : decode code 1606 = .ok (.iadd, 1) := by decide +kernel
theorem dL_law_1607 : decode code 1607 = .ok (.iaload, 1) := by decide +kernel
theorem dL_law_1608 : decode code 1608 = .ok (.invokevirtual 145, 3) := by decide +kernel
theorem dL_law_1611 : decode code 1611 = .ok (.if_icmp .eq 801, 3) := by decide +kernel
theorem dL_law_1614 : decode code 1614 = .ok (.iconst 0, 1) := by decide +kernel
theorem dL_law_1615 : decode code 1615 = .ok (.ireturn, 1) := by decide +kernel
theorem dL_law_1616 : decode code 1616 = .ok (.aload_n 1, 1) := by decide +kernel
theorem dL_law_1617 : decode code 1617 = .ok (.aload_n 0, 1) := by decide +kernel
theorem dL_law_1618 : decode code 1618 = .ok (.iload 4, 2) := by decide +kernel
theorem dL_law_1620 : decode code 1620 = .ok (.iconst 1, 1) := by decide +kernel
theorem dL_law_1621 : decode code 1621 = .ok (.iadd, 1) := by decide +kernel
theorem dL_law_1622 : decode code 1622 = .ok (.iaload, 1) := by decide +kernel
theorem dL_law_1623 : decode code 1623 = .ok (.aload_n 0, 1) := by decide +kernel
theorem dL_law_1624 : decode code 1624 = .ok (.iload 4, 2) := by decide +kernel
theorem dL_law_1626 : decode code 1626 = .ok (.iconst 2, 1) := by decide +kernel
theorem dL_law_1627 : decode code 1627 = .ok (.iadd, 1) := by decide +kernel
theorem dL_law_1628 : decode code 1628 = .ok (.iaload, 1) := by decide +kernel
theorem dL_law_1629 : decode code 1629 = .ok (.aload_n 0, 1) := by decide +kernel
theorem dL_law_1630 : decode code 1630 = .ok (.iload 4, 2) := by decide +kernel
theorem dL_law_1632 : decode code 1632 = .ok (.iconst 3, 1) := by decide +kernel
theorem dL_law_1633 : decode code 1633 = .ok (.iadd, 1) := by decide +kernel
theorem dL_law_1634 : decode code 1634 = .ok (.iaload, 1) := by decide +kernel
theorem dL_law_1635 : decode code 1635 = .ok (.aload_n 0, 1) := by decide +kernel
theorem dL_law_1636 : decode code 1636 = .ok (.iload 4, 2) := by decide +kernel
theorem dL_law_1638 : decode code 1638 = .ok (.iconst 4, 1) := by decide +kernel
theorem dL_law_1639 : decode code 1639 = .ok (.iadd, 1) := by decide +kernel
theorem dL_law_1640 : decode code 1640 = .ok (.iaload, 1) := by decide +kernel
theorem dL_law_1641 : decode code 1641 = .ok (.invokevirtual 146, 3) := by decide +kernel
theorem dL_law_1644 : decode code 1644 = .ok (.aload_n 2, 1) := by decide +kernel
theorem dL_law_1645 : decode code 1645 = .ok (.aload_n 0, 1) := by decide +kernel
theorem dL_law_1646 : decode code 1646 = .ok (.iload 4, 2) := by decide +kernel
theorem dL_law_1648 : decode code 1648 = .ok (.iconst 1, 1) := by decide +kernel
theorem dL_law_1649 : decode code 1649 = .ok (.iadd, 1) := by decide +kernel
theorem dL_law_1650 : decode code 1650 = .ok (.iaload, 1) := by decide +kernel
theorem dL_law_1651 : decode code 1651 = .ok (.aload_n 0, 1) := by decide +kernel
theorem dL_law_1652 : decode code 1652 = .ok (.iload 4, 2) := by decide +kernel
theorem dL_law_1654 : decode code 1654 = .ok (.iconst 2, 1) := by decide +kernel
theorem dL_law_1655 : decode code 1655 = .ok (.iadd, 1) := by decide +kernel
theorem dL_law_1656 : decode code 1656 = .ok (.iaload, 1) := by decide +kernel
theorem dL_law_1657 : decode code 1657 = .ok (.aload_n 0, 1) := by decide +kernel
theorem dL_law_1658 : decode code 1658 = .ok (.iload 4, 2) := by decide +kernel
theorem dL_law_1660 : decode code 1660 = .ok (.iconst 3, 1) := by decide +kernel
theorem dL_law_1661 : decode code 1661 = .ok (.iadd, 1) := by decide +kernel
theorem dL_law_1662 : decode code 1662 = .ok (.iaload, 1) := by decide +kernel
theorem dL_law_1663 : decode code 1663 = .ok (.aload_n 0, 1) := by decide +kernel
theorem dL_law_1664 : decode code 1664 = .ok (.iload 4, 2) := by decide +kernel
theorem dL_law_1666 : decode code 1666 = .ok (.iconst 4, 1) := by decide +kernel
theorem dL_law_1667 : decode code 1667 = .ok (.iadd, 1) := by decide +kernel
theorem dL_law_1668 : decode code 1668 = .ok (.iaload, 1) := by decide +kernel
theorem dL_law_1669 : decode code 1669 = .ok (.invokevirtual 149, 3) := by decide +kernel
theorem dL_law_1672 : decode code 1672 = .ok (.if_icmp .eq 740, 3) := by decide +kernel
theorem dL_law_1675 : decode code 1675 = .ok (.iconst 0, 1) := by decide +kernel
theorem dL_law_1676 : decode code 1676 = .ok (.ireturn, 1) := by decide +kernel
theorem dL_law_1677 : decode code 1677 = .ok (.aload_n 1, 1) := by decide +kernel
theorem dL_law_1678 : decode code 1678 = .ok (.aload_n 0, 1) := by decide +kernel
theorem dL_law_1679 : decode code 1679 = .ok (.iload 4, 2) := by decide +kernel
theorem dL_law_1681 : decode code 1681 = .ok (.iconst 1, 1) := by decide +kernel
theorem dL_law_1682 : decode code 1682 = .ok (.iadd, 1) := by decide +kernel
theorem dL_law_1683 : decode code 1683 = .ok (.iaload, 1) := by decide +kernel
theorem dL_law_1684 : decode code 1684 = .ok (.aload_n 0, 1) := by decide +kernel
theorem dL_law_1685 : decode code 1685 = .ok (.iload 4, 2) := by decide +kernel
theorem dL_law_1687 : decode code 1687 = .ok (.iconst 2, 1) := by decide +kernel
theorem dL_law_1688 : decode code 1688 = .ok (.iadd, 1) := by decide +kernel
theorem dL_law_1689 : decode code 1689 = .ok (.iaload, 1) := by decide +kernel
theorem dL_law_1690 : decode code 1690 = .ok (.invokevirtual 150, 3) := by decide +kernel
theorem dL_law_1693 : decode code 1693 = .ok (.aload_n 2, 1) := by decide +kernel
theorem dL_law_1694 : decode code 1694 = .ok (.aload_n 0, 1) := by decide +kernel
theorem dL_law_1695 : decode code 1695 = .ok (.iload 4, 2) := by decide +kernel
theorem dL_law_1697 : decode code 1697 = .ok (.iconst 1, 1) := by decide +kernel
theorem dL_law_1698 : decode code 1698 = .ok (.iadd, 1) := by decide +kernel
theorem dL_law_1699 : decode code 1699 = .ok (.iaload, 1) := by decide +kernel
theorem dL_law_1700 : decode code 1700 = .ok (.aload_n 0, 1) := by decide +kernel
theorem dL_law_1701 : decode code 1701 = .ok (.iload 4, 2) := by decide +kernel
theorem dL_law_1703 : decode code 1703 = .ok (.iconst 2, 1) := by decide +kernel
theorem dL_law_1704 : decode code 1704 = .ok (.iadd, 1) := by decide +kernel
theorem dL_law_1705 : decode code 1705 = .ok (.iaload, 1) := by decide +kernel
theorem dL_law_1706 : decode code 1706 = .ok (.invokevirtual 153, 3) := by decide +kernel
theorem dL_law_1709 : decode code 1709 = .ok (.if_icmp .eq 703, 3) := by decide +kernel
theorem dL_law_1712 : decode code 1712 = .ok (.iconst 0, 1) := by decide +kernel
theorem dL_law_1713 : decode code 1713 = .ok (.ireturn, 1) := by decide +kernel
theorem dL_law_1714 : decode code 1714 = .ok (.aload_n 1, 1) := by decide +kernel
theorem dL_law_1715 : decode code 1715 = .ok (.aload_n 0, 1) := by decide +kernel
theorem dL_law_1716 : decode code 1716 = .ok (.iload 4, 2) := by decide +kernel
theorem dL_law_1718 : decode code 1718 = .ok (.iconst 1, 1) := by decide +kernel
theorem dL_law_1719 : decode code 1719 = .ok (.iadd, 1) := by decide +kernel
theorem dL_law_1720 : decode code 1720 = .ok (.iaload, 1) := by decide +kernel
theorem dL_law_1721 : decode code 1721 = .ok (.aload_n 0, 1) := by decide +kernel
theorem dL_law_1722 : decode code 1722 = .ok (.iload 4, 2) := by decide +kernel
theorem dL_law_1724 : decode code 1724 = .ok (.iconst 2, 1) := by decide +kernel
theorem dL_law_1725 : decode code 1725 = .ok (.iadd, 1) := by decide +kernel
theorem dL_law_1726 : decode code 1726 = .ok (.iaload, 1) := by decide +kernel
theorem dL_law_1727 : decode code 1727 = .ok (.aload_n 0, 1) := by decide +kernel
theorem dL_law_1728 : decode code 1728 = .ok (.iload 4, 2) := by decide +kernel
theorem dL_law_1730 : decode code 1730 = .ok (.iconst 3, 1) := by decide +kernel
theorem dL_law_1731 : decode code 1731 = .ok (.iadd, 1) := by decide +kernel
theorem dL_law_1732 : decode code 1732 = .ok (.iaload, 1) := by decide +kernel
theorem dL_law_1733 : decode code 1733 = .ok (.aload_n 0, 1) := by decide +kernel
theorem dL_law_1734 : decode code 1734 = .ok (.iload 4, 2) := by decide +kernel
theorem dL_law_1736 : decode code 1736 = .ok (.iconst 4, 1) := by decide +kernel
theorem dL_law_1737 : decode code 1737 = .ok (.iadd, 1) := by decide +kernel
theorem dL_law_1738 : decode code 1738 = .ok (.iaload, 1) := by decide +kernel
theorem dL_law_1739 : decode code 1739 = .ok (.aload_n 0, 1) := by decide +kernel
theorem dL_law_1740 : decode code 1740 = .ok (.iload 4, 2) := by decide +kernel
theorem dL_law_1742 : decode code 1742 = .ok (.iconst 5, 1) := by decide +kernel
theorem dL_law_1743 : decode code 1743 = .ok (.iadd, 1) := by decide +kernel
theorem dL_law_1744 : decode code 1744 = .ok (.iaload, 1) := by decide +kernel
theorem dL_law_1745 : decode code 1745 = .ok (.aload_n 0, 1) := by decide +kernel
theorem dL_law_1746 : decode code 1746 = .ok (.iload 4, 2) := by decide +kernel
theorem dL_law_1748 : decode code 1748 = .ok (.bipush 6, 2) := by decide +kernel
theorem dL_law_1750 : decode code 1750 = .ok (.iadd, 1) := by decide +kernel
theorem dL_law_1751 : decode code 1751 = .ok (.iaload, 1) := by decide +kernel
theorem dL_law_1752 : decode code 1752 = .ok (.invokevirtual 154, 3) := by decide +kernel
theorem dL_law_1755 : decode code 1755 = .ok (.aload_n 2, 1) := by decide +kernel
theorem dL_law_1756 : decode code 1756 = .ok (.aload_n 0, 1) := by decide +kernel
theorem dL_law_1757 : decode code 1757 = .ok (.iload 4, 2) := by decide +kernel
theorem dL_law_1759 : decode code 1759 = .ok (.iconst 1, 1) := by decide +kernel
theorem dL_law_1760 : decode code 1760 = .ok (.iadd, 1) := by decide +kernel
theorem dL_law_1761 : decode code 1761 = .ok (.iaload, 1) := by decide +kernel
theorem dL_law_1762 : decode code 1762 = .ok (.aload_n 0, 1) := by decide +kernel
theorem dL_law_1763 : decode code 1763 = .ok (.iload 4, 2) := by decide +kernel
theorem dL_law_1765 : decode code 1765 = .ok (.iconst 2, 1) := by decide +kernel
theorem dL_law_1766 : decode code 1766 = .ok (.iadd, 1) := by decide +kernel
theorem dL_law_1767 : decode code 1767 = .ok (.iaload, 1) := by decide +kernel
theorem dL_law_1768 : decode code 1768 = .ok (.aload_n 0, 1) := by decide +kernel
theorem dL_law_1769 : decode code 1769 = .ok (.iload 4, 2) := by decide +kernel
theorem dL_law_1771 : decode code 1771 = .ok (.iconst 3, 1) := by decide +kernel
theorem dL_law_1772 : decode code 1772 = .ok (.iadd, 1) := by decide +kernel
theorem dL_law_1773 : decode code 1773 = .ok (.iaload, 1) := by decide +kernel
theorem dL_law_1774 : decode code 1774 = .ok (.aload_n 0, 1) := by decide +kernel
theorem dL_law_1775 : decode code 1775 = .ok (.iload 4, 2) := by decide +kernel
theorem dL_law_1777 : decode code 1777 = .ok (.iconst 4, 1) := by decide +kernel
theorem dL_law_1778 : decode code 1778 = .ok (.iadd, 1) := by decide +kernel
theorem dL_law_1779 : decode code 1779 = .ok (.iaload, 1) := by decide +kernel
theorem dL_law_1780 : decode code 1780 = .ok (.aload_n 0, 1) := by decide +kernel
theorem dL_law_1781 : decode code 1781 = .ok (.iload 4, 2) := by decide +kernel
theorem dL_law_1783 : decode code 1783 = .ok (.iconst 5, 1) := by decide +kernel
theorem dL_law_1784 : decode code 1784 = .ok (.iadd, 1) := by decide +kernel
theorem dL_law_1785 : decode code 1785 = .ok (.iaload, 1) := by decide +kernel
theorem dL_law_1786 : decode code 1786 = .ok (.aload_n 0, 1) := by decide +kernel
theorem dL_law_1787 : decode code 1787 = .ok (.iload 4, 2) := by decide +kernel
theorem dL_law_1789 : decode code 1789 = .ok (.bipush 6, 2) := by decide +kernel
theorem dL_law_1791 : decode code 1791 = .ok (.iadd, 1) := by decide +kernel
theorem dL_law_1792 : decode code 1792 = .ok (.iaload, 1) := by decide +kernel
theorem dL_law_1793 : decode code 1793 = .ok (.invokevirtual 157, 3) := by decide +kernel
theorem dL_law_1796 : decode code 1796 = .ok (.if_icmp .eq 616, 3) := by decide +kernel
theorem dL_law_1799 : decode code 1799 = .ok (.iconst 0, 1) := by decide +kernel
theorem dL_law_1800 : decode code 1800 = .ok (.ireturn, 1) := by decide +kernel
theorem dL_law_1801 : decode code 1801 = .ok (.aload_n 1, 1) := by decide +kernel
theorem dL_law_1802 : decode code 1802 = .ok (.aload_n 0, 1) := by decide +kernel
theorem dL_law_1803 : decode code 1803 = .ok (.iload 4, 2) := by decide +kernel
theorem dL_law_1805 : decode code 1805 = .ok (.iconst 1, 1) := by decide +kernel
theorem dL_law_1806 : decode code 1806 = .ok (.iadd, 1) := by decide +kernel
theorem dL_law_1807 : decode code 1807 = .ok (.iaload, 1) := by decide +kernel
theorem dL_law_1808 : decode code 1808 = .ok (.aload_n 0, 1) := by decide +kernel
theorem dL_law_1809 : decode code 1809 = .ok (.iload 4, 2) := by decide +kernel
theorem dL_law_1811 : decode code 1811 = .ok (.iconst 2, 1) := by decide +kernel
theorem dL_law_1812 : decode code 1812 = .ok (.iadd, 1) := by decide +kernel
theorem dL_law_1813 : decode code 1813 = .ok (.iaload, 1) := by decide +kernel
theorem dL_law_1814 : decode code 1814 = .ok (.aload_n 0, 1) := by decide +kernel
theorem dL_law_1815 : decode code 1815 = .ok (.iload 4, 2) := by decide +kernel
theorem dL_law_1817 : decode code 1817 = .ok (.iconst 3, 1) := by decide +kernel
theorem dL_law_1818 : decode code 1818 = .ok (.iadd, 1) := by decide +kernel
theorem dL_law_1819 : decode code 1819 = .ok (.iaload, 1) := by decide +kernel
theorem dL_law_1820 : decode code 1820 = .ok (.aload_n 0, 1) := by decide +kernel
theorem dL_law_1821 : decode code 1821 = .ok (.iload 4, 2) := by decide +kernel
theorem dL_law_1823 : decode code 1823 = .ok (.iconst 4, 1) := by decide +kernel
theorem dL_law_1824 : decode code 1824 = .ok (.iadd, 1) := by decide +kernel
theorem dL_law_1825 : decode code 1825 = .ok (.iaload, 1) := by decide +kernel
theorem dL_law_1826 : decode code 1826 = .ok (.invokevirtual 158, 3) := by decide +kernel
theorem dL_law_1829 : decode code 1829 = .ok (.aload_n 2, 1) := by decide +kernel
theorem dL_law_1830 : decode code 1830 = .ok (.aload_n 0, 1) := by decide +kernel
theorem dL_law_1831 : decode code 1831 = .ok (.iload 4, 2) := by decide +kernel
theorem dL_law_1833 : decode code 1833 = .ok (.iconst 1, 1) := by decide +kernel
theorem dL_law_1834 : decode code 1834 = .ok (.iadd, 1) := by decide +kernel
theorem dL_law_1835 : decode code 1835 = .ok (.iaload, 1) := by decide +kernel
theorem dL_law_1836 : decode code 1836 = .ok (.aload_n 0, 1) := by decide +kernel
theorem dL_law_1837 : decode code 1837 = .ok (.iload 4, 2) := by decide +kernel
theorem dL_law_1839 : decode code 1839 = .ok (.iconst 2, 1) := by decide +kernel
theorem dL_law_1840 : decode code 1840 = .ok (.iadd, 1) := by decide +kernel
theorem dL_law_1841 : decode code 1841 = .ok (.iaload, 1) := by decide +kernel
theorem dL_law_1842 : decode code 1842 = .ok (.aload_n 0, 1) := by decide +kernel
theorem dL_law_1843 : decode code 1843 = .ok (.iload 4, 2) := by decide +kernel
theorem dL_law_1845 : decode code 1845 = .ok (.iconst 3, 1) := by decide +kernel
theorem dL_law_1846 : decode code 1846 = .ok (.iadd, 1) := by decide +kernel
theorem dL_law_1847 : decode code 1847 = .ok (.iaload, 1) := by decide +kernel
theorem dL_law_1848 : decode code 1848 = .ok (.aload_n 0, 1) := by decide +kernel
theorem dL_law_1849 : decode code 1849 = .ok (.iload 4, 2) := by decide +kernel
theorem dL_law_1851 : decode code 1851 = .ok (.iconst 4, 1) := by decide +kernel
theorem dL_law_1852 : decode code 1852 = .ok (.iadd, 1) := by decide +kernel
theorem dL_law_1853 : decode code 1853 = .ok (.iaload, 1) := by decide +kernel
theorem dL_law_1854 : decode code 1854 = .ok (.invokevirtual 161, 3) := by decide +kernel
theorem dL_law_1857 : decode code 1857 = .ok (.if_icmp .eq 555, 3) := by decide +kernel
theorem dL_law_1860 : decode code 1860 = .ok (.iconst 0, 1) := by decide +kernel
theorem dL_law_1861 : decode code 1861 = .ok (.ireturn, 1) := by decide +kernel
theorem dL_law_1862 : decode code 1862 = .ok (.aload_n 1, 1) := by decide +kernel
theorem dL_law_1863 : decode code 1863 = .ok (.aload_n 0, 1) := by decide +kernel
theorem dL_law_1864 : decode code 1864 = .ok (.iload 4, 2) := by decide +kernel
theorem dL_law_1866 : decode code 1866 = .ok (.iconst 1, 1) := by decide +kernel
theorem dL_law_1867 : decode code 1867 = .ok (.iadd, 1) := by decide +kernel
theorem dL_law_1868 : decode code 1868 = .ok (.iaload, 1) := by decide +kernel
theorem dL_law_1869 : decode code 1869 = .ok (.aload_n 0, 1) := by decide +kernel
theorem dL_law_1870 : decode code 1870 = .ok (.iload 4, 2) := by decide +kernel
theorem dL_law_1872 : decode code 1872 = .ok (.iconst 2, 1) := by decide +kernel
theorem dL_law_1873 : decode code 1873 = .ok (.iadd, 1) := by decide +kernel
theorem dL_law_1874 : decode code 1874 = .ok (.iaload, 1) := by decide +kernel
theorem dL_law_1875 : decode code 1875 = .ok (.aload_n 0, 1) := by decide +kernel
theorem dL_law_1876 : decode code 1876 = .ok (.iload 4, 2) := by decide +kernel
theorem dL_law_1878 : decode code 1878 = .ok (.iconst 3, 1) := by decide +kernel
theorem dL_law_1879 : decode code 1879 = .ok (.iadd, 1) := by decide +kernel
theorem dL_law_1880 : decode code 1880 = .ok (.iaload, 1) := by decide +kernel
theorem dL_law_1881 : decode code 1881 = .ok (.invokevirtual 162, 3) := by decide +kernel
theorem dL_law_1884 : decode code 1884 = .ok (.aload_n 2, 1) := by decide +kernel
theorem dL_law_1885 : decode code 1885 = .ok (.aload_n 0, 1) := by decide +kernel
theorem dL_law_1886 : decode code 1886 = .ok (.iload 4, 2) := by decide +kernel
theorem dL_law_1888 : decode code 1888 = .ok (.iconst 1, 1) := by decide +kernel
theorem dL_law_1889 : decode code 1889 = .ok (.iadd, 1) := by decide +kernel
theorem dL_law_1890 : decode code 1890 = .ok (.iaload, 1) := by decide +kernel
theorem dL_law_1891 : decode code 1891 = .ok (.aload_n 0, 1) := by decide +kernel
theorem dL_law_1892 : decode code 1892 = .ok (.iload 4, 2) := by decide +kernel
theorem dL_law_1894 : decode code 1894 = .ok (.iconst 2, 1) := by decide +kernel
theorem dL_law_1895 : decode code 1895 = .ok (.iadd, 1) := by decide +kernel
theorem dL_law_1896 : decode code 1896 = .ok (.iaload, 1) := by decide +kernel
theorem dL_law_1897 : decode code 1897 = .ok (.aload_n 0, 1) := by decide +kernel
theorem dL_law_1898 : decode code 1898 = .ok (.iload 4, 2) := by decide +kernel
theorem dL_law_1900 : decode code 1900 = .ok (.iconst 3, 1) := by decide +kernel
theorem dL_law_1901 : decode code 1901 = .ok (.iadd, 1) := by decide +kernel
theorem dL_law_1902 : decode code 1902 = .ok (.iaload, 1) := by decide +kernel
theorem dL_law_1903 : decode code 1903 = .ok (.invokevirtual 165, 3) := by decide +kernel
theorem dL_law_1906 : decode code 1906 = .ok (.if_icmp .eq 506, 3) := by decide +kernel
theorem dL_law_1909 : decode code 1909 = .ok (.iconst 0, 1) := by decide +kernel
theorem dL_law_1910 : decode code 1910 = .ok (.ireturn, 1) := by decide +kernel
theorem dL_law_1911 : decode code 1911 = .ok (.aload_n 1, 1) := by decide +kernel
theorem dL_law_1912 : decode code 1912 = .ok (.aload_n 0, 1) := by decide +kernel
theorem dL_law_1913 : decode code 1913 = .ok (.iload 4, 2) := by decide +kernel
theorem dL_law_1915 : decode code 1915 = .ok (.iconst 1, 1) := by decide +kernel
theorem dL_law_1916 : decode code 1916 = .ok (.iadd, 1) := by decide +kernel
theorem dL_law_1917 : decode code 1917 = .ok (.iaload, 1) := by decide +kernel
theorem dL_law_1918 : decode code 1918 = .ok (.aload_n 0, 1) := by decide +kernel
theorem dL_law_1919 : decode code 1919 = .ok (.iload 4, 2) := by decide +kernel
theorem dL_law_1921 : decode code 1921 = .ok (.iconst 2, 1) := by decide +kernel
theorem dL_law_1922 : decode code 1922 = .ok (.iadd, 1) := by decide +kernel
theorem dL_law_1923 : decode code 1923 = .ok (.iaload, 1) := by decide +kernel
theorem dL_law_1924 : decode code 1924 = .ok (.invokevirtual 166, 3) := by decide +kernel
theorem dL_law_1927 : decode code 1927 = .ok (.aload_n 2, 1) := by decide +kernel
theorem dL_law_1928 : decode code 1928 = .ok (.aload_n 0, 1) := by decide +kernel
theorem dL_law_1929 : decode code 1929 = .ok (.iload 4, 2) := by decide +kernel
theorem dL_law_1931 : decode code 1931 = .ok (.iconst 1, 1) := by decide +kernel
theorem dL_law_1932 : decode code 1932 = .ok (.iadd, 1) := by decide +kernel
theorem dL_law_1933 : decode code 1933 = .ok (.iaload, 1) := by decide +kernel
theorem dL_law_1934 : decode code 1934 = .ok (.aload_n 0, 1) := by decide +kernel
theorem dL_law_1935 : decode code 1935 = .ok (.iload 4, 2) := by decide +kernel
theorem dL_law_1937 : decode code 1937 = .ok (.iconst 2, 1) := by decide +kernel
theorem dL_law_1938 : decode code 1938 = .ok (.iadd, 1) := by decide +kernel
theorem dL_law_1939 : decode code 1939 = .ok (.iaload, 1) := by decide +kernel
theorem dL_law_1940 : decode code 1940 = .ok (.invokevirtual 169, 3) := by decide +kernel
theorem dL_law_1943 : decode code 1943 = .ok (.if_icmp .eq 469, 3) := by decide +kernel
theorem dL_law_1946 : decode code 1946 = .ok (.iconst 0, 1) := by decide +kernel
theorem dL_law_1947 : decode code 1947 = .ok (.ireturn, 1) := by decide +kernel
theorem dL_law_1948 : decode code 1948 = .ok (.aload_n 1, 1) := by decide +kernel
theorem dL_law_1949 : decode code 1949 = .ok (.aload_n 0, 1) := by decide +kernel
theorem dL_law_1950 : decode code 1950 = .ok (.iload 4, 2) := by decide +kernel
theorem dL_law_1952 : decode code 1952 = .ok (.iconst 1, 1) := by decide +kernel
theorem dL_law_1953 : decode code 1953 = .ok (.iadd, 1) := by decide +kernel
theorem dL_law_1954 : decode code 1954 = .ok (.iaload, 1) := by decide +kernel
theorem dL_law_1955 : decode code 1955 = .ok (.aload_n 0, 1) := by decide +kernel
theorem dL_law_1956 : decode code 1956 = .ok (.iload 4, 2) := by decide +kernel
theorem dL_law_1958 : decode code 1958 = .ok (.iconst 2, 1) := by decide +kernel
theorem dL_law_1959 : decode code 1959 = .ok (.iadd, 1) := by decide +kernel
theorem dL_law_1960 : decode code 1960 = .ok (.iaload, 1) := by decide +kernel
theorem dL_law_1961 : decode code 1961 = .ok (.aload_n 0, 1) := by decide +kernel
theorem dL_law_1962 : decode code 1962 = .ok (.iload 4, 2) := by decide +kernel
theorem dL_law_1964 : decode code 1964 = .ok (.iconst 3, 1) := by decide +kernel
theorem dL_law_1965 : decode code 1965 = .ok (.iadd, 1) := by decide +kernel
theorem dL_law_1966 : decode code 1966 = .ok (.iaload, 1) := by decide +kernel
theorem dL_law_1967 : decode code 1967 = .ok (.aload_n 0, 1) := by decide +kernel
theorem dL_law_1968 : decode code 1968 = .ok (.iload 4, 2) := by decide +kernel
theorem dL_law_1970 : decode code 1970 = .ok (.iconst 4, 1) := by decide +kernel
theorem dL_law_1971 : decode code 1971 = .ok (.iadd, 1) := by decide +kernel
theorem dL_law_1972 : decode code 1972 = .ok (.iaload, 1) := by decide +kernel
theorem dL_law_1973 : decode code 1973 = .ok (.invokevirtual 170, 3) := by decide +kernel
theorem dL_law_1976 : decode code 1976 = .ok (.aload_n 2, 1) := by decide +kernel
theorem dL_law_1977 : decode code 1977 = .ok (.aload_n 0, 1) := by decide +kernel
theorem dL_law_1978 : decode code 1978 = .ok (.iload 4, 2) := by decide +kernel
theorem dL_law_1980 : decode code 1980 = .ok (.iconst 1, 1) := by decide +kernel
theorem dL_law_1981 : decode code 1981 = .ok (.iadd, 1) := by decide +kernel
theorem dL_law_1982 : decode code 1982 = .ok (.iaload, 1) := by decide +kernel
theorem dL_law_1983 : decode code 1983 = .ok (.aload_n 0, 1) := by decide +kernel
theorem dL_law_1984 : decode code 1984 = .ok (.iload 4, 2) := by decide +kernel
theorem dL_law_1986 : decode code 1986 = .ok (.iconst 2, 1) := by decide +kernel
theorem dL_law_1987 : decode code 1987 = .ok (.iadd, 1) := by decide +kernel
theorem dL_law_1988 : decode code 1988 = .ok (.iaload, 1) := by decide +kernel
theorem dL_law_1989 : decode code 1989 = .ok (.aload_n 0, 1) := by decide +kernel
theorem dL_law_1990 : decode code 1990 = .ok (.iload 4, 2) := by decide +kernel
theorem dL_law_1992 : decode code 1992 = .ok (.iconst 3, 1) := by decide +kernel
theorem dL_law_1993 : decode code 1993 = .ok (.iadd, 1) := by decide +kernel
theorem dL_law_1994 : decode code 1994 = .ok (.iaload, 1) := by decide +kernel
theorem dL_law_1995 : decode code 1995 = .ok (.aload_n 0, 1) := by decide +kernel
theorem dL_law_1996 : decode code 1996 = .ok (.iload 4, 2) := by decide +kernel
theorem dL_law_1998 : decode code 1998 = .ok (.iconst 4, 1) := by decide +kernel
theorem dL_law_1999 : decode code 1999 = .ok (.iadd, 1) := by decide +kernel
theorem dL_law_2000 : decode code 2000 = .ok (.iaload, 1) := by decide +kernel
theorem dL_law_2001 : decode code 2001 = .ok (.invokevirtual 173, 3) := by decide +kernel
theorem dL_law_2004 : decode code 2004 = .ok (.if_icmp .eq 408, 3) := by decide +kernel
theorem dL_law_2007 : decode code 2007 = .ok (.iconst 0, 1) := by decide +kernel
theorem dL_law_2008 : decode code 2008 = .ok (.ireturn, 1) := by decide +kernel
theorem dL_law_2009 : decode code 2009 = .ok (.aload_n 1, 1) := by decide +kernel
theorem dL_law_2010 : decode code 2010 = .ok (.aload_n 0, 1) := by decide +kernel
theorem dL_law_2011 : decode code 2011 = .ok (.iload 4, 2) := by decide +kernel
theorem dL_law_2013 : decode code 2013 = .ok (.iconst 1, 1) := by decide +kernel
theorem dL_law_2014 : decode code 2014 = .ok (.iadd, 1) := by decide +kernel
theorem dL_law_2015 : decode code 2015 = .ok (.iaload, 1) := by decide +kernel
theorem dL_law_2016 : decode code 2016 = .ok (.aload_n 0, 1) := by decide +kernel
theorem dL_law_2017 : decode code 2017 = .ok (.iload 4, 2) := by decide +kernel
theorem dL_law_2019 : decode code 2019 = .ok (.iconst 2, 1) := by decide +kernel
theorem dL_law_2020 : decode code 2020 = .ok (.iadd, 1) := by decide +kernel
theorem dL_law_2021 : decode code 2021 = .ok (.iaload, 1) := by decide +kernel
theorem dL_law_2022 : decode code 2022 = .ok (.aload_n 0, 1) := by decide +kernel
theorem dL_law_2023 : decode code 2023 = .ok (.iload 4, 2) := by decide +kernel
theorem dL_law_2025 : decode code 2025 = .ok (.iconst 3, 1) := by decide +kernel
theorem dL_law_2026 : decode code 2026 = .ok (.iadd, 1) := by decide +kernel
theorem dL_law_2027 : decode code 2027 = .ok (.iaload, 1) := by decide +kernel
theorem dL_law_2028 : decode code 2028 = .ok (.aload_n 0, 1) := by decide +kernel
theorem dL_law_2029 : decode code 2029 = .ok (.iload 4, 2) := by decide +kernel
theorem dL_law_2031 : decode code 2031 = .ok (.iconst 4, 1) := by decide +kernel
theorem dL_law_2032 : decode code 2032 = .ok (.iadd, 1) := by decide +kernel
theorem dL_law_2033 : decode code 2033 = .ok (.iaload, 1) := by decide +kernel
theorem dL_law_2034 : decode code 2034 = .ok (.invokevirtual 174, 3) := by decide +kernel
theorem dL_law_2037 : decode code 2037 = .ok (.aload_n 2, 1) := by decide +kernel
theorem dL_law_2038 : decode code 2038 = .ok (.aload_n 0, 1) := by decide +kernel
theorem dL_law_2039 : decode code 2039 = .ok (.iload 4, 2) := by decide +kernel
theorem dL_law_2041 : decode code 2041 = .ok (.iconst 1, 1) := by decide +kernel
theorem dL_law_2042 : decode code 2042 = .ok (.iadd, 1) := by decide +kernel
theorem dL_law_2043 : decode code 2043 = .ok (.iaload, 1) := by decide +kernel
theorem dL_law_2044 : decode code 2044 = .ok (.aload_n 0, 1) := by decide +kernel
theorem dL_law_2045 : decode code 2045 = .ok (.iload 4, 2) := by decide +kernel
theorem dL_law_2047 : decode code 2047 = .ok (.iconst 2, 1) := by decide +kernel
theorem dL_law_2048 : decode code 2048 = .ok (.iadd, 1) := by decide +kernel
theorem dL_law_2049 : decode code 2049 = .ok (.iaload, 1) := by decide +kernel
theorem dL_law_2050 : decode code 2050 = .ok (.aload_n 0, 1) := by decide +kernel
theorem dL_law_2051 : decode code 2051 = .ok (.iload 4, 2) := by decide +kernel
theorem dL_law_2053 : decode code 2053 = .ok (.iconst 3, 1) := by decide +kernel
theorem dL_law_2054 : decode code 2054 = .ok (.iadd, 1) := by decide +kernel
theorem dL_law_2055 : decode code 2055 = .ok (.iaload, 1) := by decide +kernel
theorem dL_law_2056 : decode code 2056 = .ok (.aload_n 0, 1) := by decide +kernel
theorem dL_law_2057 : decode code 2057 = .ok (.iload 4, 2) := by decide +kernel
theorem dL_law_2059 : decode code 2059 = .ok (.iconst 4, 1) := by decide +kernel
theorem dL_law_2060 : decode code 2060 = .ok (.iadd, 1) := by decide +kernel
theorem dL_law_2061 : decode code 2061 = .ok (.iaload, 1) := by decide +kernel
theorem dL_law_2062 : decode code 2062 = .ok (.invokevirtual 177, 3) := by decide +kernel
theorem dL_law_2065 : decode code 2065 = .ok (.if_icmp .eq 347, 3) := by decide +kernel
theorem dL_law_2068 : decode code 2068 = .ok (.iconst 0, 1) := by decide +kernel
theorem dL_law_2069 : decode code 2069 = .ok (.ireturn, 1) := by decide +kernel
theorem dL_law_2070 : decode code 2070 = .ok (.aload_n 1, 1) := by decide +kernel
theorem dL_law_2071 : decode code 2071 = .ok (.aload_n 0, 1) := by decide +kernel
theorem dL_law_2072 : decode code 2072 = .ok (.iload 4, 2) := by decide +kernel
theorem dL_law_2074 : decode code 2074 = .ok (.iconst 1, 1) := by decide +kernel
theorem dL_law_2075 : decode code 2075 = .ok (.iadd, 1) := by decide +kernel
theorem dL_law_2076 : decode code 2076 = .ok (.iaload, 1) := by decide +kernel
theorem dL_law_2077 : decode code 2077 = .ok (.aload_n 0, 1) := by decide +kernel
theorem dL_law_2078 : decode code 2078 = .ok (.iload 4, 2) := by decide +kernel
theorem dL_law_2080 : decode code 2080 = .ok (.iconst 2, 1) := by decide +kernel
theorem dL_law_2081 : decode code 2081 = .ok (.iadd, 1) := by decide +kernel
theorem dL_law_2082 : decode code 2082 = .ok (.iaload, 1) := by decide +kernel
theorem dL_law_2083 : decode code 2083 = .ok (.invokevirtual 178, 3) := by decide +kernel
theorem dL_law_2086 : decode code 2086 = .ok (.aload_n 2, 1) := by decide +kernel
theorem dL_law_2087 : decode code 2087 = .ok (.aload_n 0, 1) := by decide +kernel
theorem dL_law_2088 : decode code 2088 = .ok (.iload 4, 2) := by decide +kernel
theorem dL_law_2090 : decode code 2090 = .ok (.iconst 1, 1) := by decide +kernel
theorem dL_law_2091 : decode code 2091 = .ok (.iadd, 1) := by decide +kernel
theorem dL_law_2092 : decode code 2092 = .ok (.iaload, 1) := by decide +kernel
theorem dL_law_2093 : decode code 2093 = .ok (.aload_n 0, 1) := by decide +kernel
theorem dL_law_2094 : decode code 2094 = .ok (.iload 4, 2) := by decide +kernel
theorem dL_law_2096 : decode code 2096 = .ok (.iconst 2, 1) := by decide +kernel
theorem dL_law_2097 : decode code 2097 = .ok (.iadd, 1) := by decide +kernel
theorem dL_law_2098 : decode code 2098 = .ok (.iaload, 1) := by decide +kernel
theorem dL_law_2099 : decode code 2099 = .ok (.invokevirtual 181, 3) := by decide +kernel
theorem dL_law_2102 : decode code 2102 = .ok (.if_icmp .eq 310, 3) := by decide +kernel
theorem dL_law_2105 : decode code 2105 = .ok (.iconst 0, 1) := by decide +kernel
theorem dL_law_2106 : decode code 2106 = .ok (.ireturn, 1) := by decide +kernel
theorem dL_law_2107 : decode code 2107 = .ok (.aload_n 1, 1) := by decide +kernel
theorem dL_law_2108 : decode code 2108 = .ok (.aload_n 0, 1) := by decide +kernel
theorem dL_law_2109 : decode code 2109 = .ok (.iload 4, 2) := by decide +kernel
theorem dL_law_2111 : decode code 2111 = .ok (.iconst 1, 1) := by decide +kernel
theorem dL_law_2112 : decode code 2112 = .ok (.iadd, 1) := by decide +kernel
theorem dL_law_2113 : decode code 2113 = .ok (.iaload, 1) := by decide +kernel
theorem dL_law_2114 : decode code 2114 = .ok (.aload_n 0, 1) := by decide +kernel
theorem dL_law_2115 : decode code 2115 = .ok (.iload 4, 2) := by decide +kernel
theorem dL_law_2117 : decode code 2117 = .ok (.iconst 2, 1) := by decide +kernel
theorem dL_law_2118 : decode code 2118 = .ok (.iadd, 1) := by decide +kernel
theorem dL_law_2119 : decode code 2119 = .ok (.iaload, 1) := by decide +kernel
theorem dL_law_2120 : decode code 2120 = .ok (.invokevirtual 182, 3) := by decide +kernel
theorem dL_law_2123 : decode code 2123 = .ok (.aload_n 2, 1) := by decide +kernel
theorem dL_law_2124 : decode code 2124 = .ok (.aload_n 0, 1) := by decide +kernel
theorem dL_law_2125 : decode code 2125 = .ok (.iload 4, 2) := by decide +kernel
theorem dL_law_2127 : decode code 2127 = .ok (.iconst 1, 1) := by decide +kernel
theorem dL_law_2128 : decode code 2128 = .ok (.iadd, 1) := by decide +kernel
theorem dL_law_2129 : decode code 2129 = .ok (.iaload, 1) := by decide +kernel
theorem dL_law_2130 : decode code 2130 = .ok (.aload_n 0, 1) := by decide +kernel
theorem dL_law_2131 : decode code 2131 = .ok (.iload 4, 2) := by decide +kernel
theorem dL_law_2133 : decode code 2133 = .ok (.iconst 2, 1) := by decide +kernel
theorem dL_law_2134 : decode code 2134 = .ok (.iadd, 1) := by decide +kernel
theorem dL_law_2135 : decode code 2135 = .ok (.iaload, 1) := by decide +kernel
theorem dL_law_2136 : decode code 2136 = .ok (.invokevirtual 185, 3) := by decide +kernel
theorem dL_law_2139 : decode code 2139 = .ok (.if_icmp .eq 273, 3) := by decide +kernel
theorem dL_law_2142 : decode code 2142 = .ok (.iconst 0, 1) := by decide +kernel
theorem dL_law_2143 : decode code 2143 = .ok (.ireturn, 1) := by decide +kernel
theorem dL_law_2144 : decode code 2144 = .ok (.aload_n 1, 1) := by decide +kernel
theorem dL_law_2145 : decode code 2145 = .ok (.aload_n 0, 1) := by decide +kernel
theorem dL_law_2146 : decode code 2146 = .ok (.iload 4, 2) := by decide +kernel
theorem dL_law_2148 : decode code 2148 = .ok (.iconst 1, 1) := by decide +kernel
theorem dL_law_2149 : decode code 2149 = .ok (.iadd, 1) := by decide +kernel
theorem dL_law_2150 : decode code 2150 = .ok (.iaload, 1) := by decide +kernel
theorem dL_law_2151 : decode code 2151 = .ok (.aload_n 0, 1) := by decide +kernel
theorem dL_law_2152 : decode code 2152 = .ok (.iload 4, 2) := by decide +kernel
theorem dL_law_2154 : decode code 2154 = .ok (.iconst 2, 1) := by decide +kernel
theorem dL_law_2155 : decode code 2155 = .ok (.iadd, 1) := by decide +kernel
theorem dL_law_2156 : decode code 2156 = .ok (.iaload, 1) := by decide +kernel
theorem dL_law_2157 : decode code 2157 = .ok (.aload_n 0, 1) := by decide +kernel
theorem dL_law_2158 : decode code 2158 = .ok (.iload 4, 2) := by decide +kernel
theorem dL_law_2160 : decode code 2160 = .ok (.iconst 3, 1) := by decide +kernel
theorem dL_law_2161 : decode code 2161 = .ok (.iadd, 1) := by decide +kernel
theorem dL_law_2162 : decode code 2162 = .ok (.iaload, 1) := by decide +kernel
theorem dL_law_2163 : decode code 2163 = .ok (.invokevirtual 186, 3) := by decide +kernel
theorem dL_law_2166 : decode code 2166 = .ok (.aload_n 2, 1) := by decide +kernel
theorem dL_law_2167 : decode code 2167 = .ok (.aload_n 0, 1) := by decide +kernel
theorem dL_law_2168 : decode code 2168 = .ok (.iload 4, 2) := by decide +kernel
theorem dL_law_2170 : decode code 2170 = .ok (.iconst 1, 1) := by decide +kernel
theorem dL_law_2171 : decode code 2171 = .ok (.iadd, 1) := by decide +kernel
theorem dL_law_2172 : decode code 2172 = .ok (.iaload, 1) := by decide +kernel
theorem dL_law_2173 : decode code 2173 = .ok (.aload_n 0, 1) := by decide +kernel
theorem dL_law_2174 : decode code 2174 = .ok (.iload 4, 2) := by decide +kernel
theorem dL_law_2176 : decode code 2176 = .ok (.iconst 2, 1) := by decide +kernel
theorem dL_law_2177 : decode code 2177 = .ok (.iadd, 1) := by decide +kernel
theorem dL_law_2178 : decode code 2178 = .ok (.iaload, 1) := by decide +kernel
theorem dL_law_2179 : decode code 2179 = .ok (.aload_n 0, 1) := by decide +kernel
theorem dL_law_2180 : decode code 2180 = .ok (.iload 4, 2) := by decide +kernel
theorem dL_law_2182 : decode code 2182 = .ok (.iconst 3, 1) := by decide +kernel
theorem dL_law_2183 : decode code 2183 = .ok (.iadd, 1) := by decide +kernel
theorem dL_law_2184 : decode code 2184 = .ok (.iaload, 1) := by decide +kernel
theorem dL_law_2185 : decode code 2185 = .ok (.invokevirtual 189, 3) := by decide +kernel
theorem dL_law_2188 : decode code 2188 = .ok (.if_icmp .eq 224, 3) := by decide +kernel
theorem dL_law_2191 : decode code 2191 = .ok (.iconst 0, 1) := by decide +kernel
theorem dL_law_2192 : decode code 2192 = .ok (.ireturn, 1) := by decide +kernel
theorem dL_law_2193 : decode code 2193 = .ok (.aload_n 1, 1) := by decide +kernel
theorem dL_law_2194 : decode code 2194 = .ok (.aload_n 0, 1) := by decide +kernel
theorem dL_law_2195 : decode code 2195 = .ok (.iload 4, 2) := by decide +kernel
theorem dL_law_2197 : decode code 2197 = .ok (.iconst 1, 1) := by decide +kernel
theorem dL_law_2198 : decode code 2198 = .ok (.iadd, 1) := by decide +kernel
theorem dL_law_2199 : decode code 2199 = .ok (.iaload, 1) := by decide +kernel
theorem dL_law_2200 : decode code 2200 = .ok (.invokevirtual 190, 3) := by decide +kernel
theorem dL_law_2203 : decode code 2203 = .ok (.aload_n 2, 1) := by decide +kernel
theorem dL_law_2204 : decode code 2204 = .ok (.aload_n 0, 1) := by decide +kernel
theorem dL_law_2205 : decode code 2205 = .ok (.iload 4, 2) := by decide +kernel
theorem dL_law_2207 : decode code 2207 = .ok (.iconst 1, 1) := by decide +kernel
theorem dL_law_2208 : decode code 2208 = .ok (.iadd, 1) := by decide +kernel
theorem dL_law_2209 : decode code 2209 = .ok (.iaload, 1) := by decide +kernel
theorem dL_law_2210 : decode code 2210 = .ok (.invokevirtual 193, 3) := by decide +kernel
theorem dL_law_2213 : decode code 2213 = .ok (.if_icmp .eq 199, 3) := by decide +kernel
theorem dL_law_2216 : decode code 2216 = .ok (.iconst 0, 1) := by decide +kernel
theorem dL_law_2217 : decode code 2217 = .ok (.ireturn, 1) := by decide +kernel
theorem dL_law_2218 : decode code 2218 = .ok (.aload_n 1, 1) := by decide +kernel
theorem dL_law_2219 : decode code 2219 = .ok (.aload_n 0, 1) := by decide +kernel
theorem dL_law_2220 : decode code 2220 = .ok (.iload 4, 2) := by decide +kernel
theorem dL_law_2222 : decode code 2222 = .ok (.iconst 1, 1) := by decide +kernel
theorem dL_law_2223 : decode code 2223 = .ok (.iadd, 1) := by decide +kernel
theorem dL_law_2224 : decode code 2224 = .ok (.iaload, 1) := by decide +kernel
theorem dL_law_2225 : decode code 2225 = .ok (.aload_n 0, 1) := by decide +kernel
theorem dL_law_2226 : decode code 2226 = .ok (.iload 4, 2) := by decide +kernel
theorem dL_law_2228 : decode code 2228 = .ok (.iconst 2, 1) := by decide +kernel
theorem dL_law_2229 : decode code 2229 = .ok (.iadd, 1) := by decide +kernel
theorem dL_law_2230 : decode code 2230 = .ok (.iaload, 1) := by decide +kernel
theorem dL_law_2231 : decode code 2231 = .ok (.invokevirtual 194, 3) := by decide +kernel
theorem dL_law_2234 : decode code 2234 = .ok (.aload_n 2, 1) := by decide +kernel
theorem dL_law_2235 : decode code 2235 = .ok (.aload_n 0, 1) := by decide +kernel
theorem dL_law_2236 : decode code 2236 = .ok (.iload 4, 2) := by decide +kernel
theorem dL_law_2238 : decode code 2238 = .ok (.iconst 1, 1) := by decide +kernel
theorem dL_law_2239 : decode code 2239 = .ok (.iadd, 1) := by decide +kernel
theorem dL_law_2240 : decode code 2240 = .ok (.iaload, 1) := by decide +kernel
theorem dL_law_2241 : decode code 2241 = .ok (.aload_n 0, 1) := by decide +kernel
theorem dL_law_2242 : decode code 2242 = .ok (.iload 4, 2) := by decide +kernel
theorem dL_law_2244 : decode code 2244 = .ok (.iconst 2, 1) := by decide +kernel
theorem dL_law_2245 : decode code 2245 = .ok (.iadd, 1) := by decide +kernel
theorem dL_law_2246 : decode code 2246 = .ok (.iaload, 1) := by decide +kernel
theorem dL_law_2247 : decode code 2247 = .ok (.invokevirtual 197, 3) := by decide +kernel
theorem dL_law_2250 : decode code 2250 = .ok (.if_icmp .eq 162, 3) := by decide +kernel
theorem dL_law_2253 : decode code 2253 = .ok (.iconst 0, 1) := by decide +kernel
theorem dL_law_2254 : decode code 2254 = .ok (.ireturn, 1) := by decide +kernel
theorem dL_law_2255 : decode code 2255 = .ok (.aload_n 1, 1) := by decide +kernel
theorem dL_law_2256 : decode code 2256 = .ok (.invokevirtual 198, 3) := by decide +kernel
theorem dL_law_2259 : decode code 2259 = .ok (.aload_n 2, 1) := by decide +kernel
theorem dL_law_2260 : decode code 2260 = .ok (.invokevirtual 201, 3) := by decide +kernel
theorem dL_law_2263 : decode code 2263 = .ok (.if_icmp .eq 149, 3) := by decide +kernel
theorem dL_law_2266 : decode code 2266 = .ok (.iconst 0, 1) := by decide +kernel
theorem dL_law_2267 : decode code 2267 = .ok (.ireturn, 1) := by decide +kernel
theorem dL_law_2268 : decode code 2268 = .ok (.aload_n 1, 1) := by decide +kernel
theorem dL_law_2269 : decode code 2269 = .ok (.aload_n 0, 1) := by decide +kernel
theorem dL_law_2270 : decode code 2270 = .ok (.iload 4, 2) := by decide +kernel
theorem dL_law_2272 : decode code 2272 = .ok (.iconst 1, 1) := by decide +kernel
theorem dL_law_2273 : decode code 2273 = .ok (.iadd, 1) := by decide +kernel
theorem dL_law_2274 : decode code 2274 = .ok (.iaload, 1) := by decide +kernel
theorem dL_law_2275 : decode code 2275 = .ok (.invokevirtual 202, 3) := by decide +kernel
theorem dL_law_2278 : decode code 2278 = .ok (.aload_n 2, 1) := by decide +kernel
theorem dL_law_2279 : decode code 2279 = .ok (.aload_n 0, 1) := by decide +kernel
theorem dL_law_2280 : decode code 2280 = .ok (.iload 4, 2) := by decide +kernel
theorem dL_law_2282 : decode code 2282 = .ok (.iconst 1, 1) := by decide +kernel
theorem dL_law_2283 : decode code 2283 = .ok (.iadd, 1) := by decide +kernel
theorem dL_law_2284 : decode code 2284 = .ok (.iaload, 1) := by decide +kernel
theorem dL_law_2285 : decode code 2285 = .ok (.invokevirtual 205, 3) := by decide +kernel
theorem dL_law_2288 : decode code 2288 = .ok (.if_icmp .eq 124, 3) := by decide +kernel
theorem dL_law_2291 : decode code 2291 = .ok (.iconst 0, 1) := by decide +kernel
theorem dL_law_2292 : decode code 2292 = .ok (.ireturn, 1) := by decide +kernel
theorem dL_law_2293 : decode code 2293 = .ok (.aload_n 1, 1) := by decide +kernel
theorem dL_law_2294 : decode code 2294 = .ok (.aload_n 0, 1) := by decide +kernel
theorem dL_law_2295 : decode code 2295 = .ok (.iload 4, 2) := by decide +kernel
theorem dL_law_2297 : decode code 2297 = .ok (.iconst 1, 1) := by decide +kernel
theorem dL_law_2298 : decode code 2298 = .ok (.iadd, 1) := by decide +kernel
theorem dL_law_2299 : decode code 2299 = .ok (.iaload, 1) := by decide +kernel
theorem dL_law_2300 : decode code 2300 = .ok (.invokevirtual 206, 3) := by decide +kernel
theorem dL_law_2303 : decode code 2303 = .ok (.aload_n 2, 1) := by decide +kernel
theorem dL_law_2304 : decode code 2304 = .ok (.aload_n 0, 1) := by decide +kernel
theorem dL_law_2305 : decode code 2305 = .ok (.iload 4, 2) := by decide +kernel
theorem dL_law_2307 : decode code 2307 = .ok (.iconst 1, 1) := by decide +kernel
theorem dL_law_2308 : decode code 2308 = .ok (.iadd, 1) := by decide +kernel
theorem dL_law_2309 : decode code 2309 = .ok (.iaload, 1) := by decide +kernel
theorem dL_law_2310 : decode code 2310 = .ok (.invokevirtual 209, 3) := by decide +kernel
theorem dL_law_2313 : decode code 2313 = .ok (.if_icmp .eq 99, 3) := by decide +kernel
theorem dL_law_2316 : decode code 2316 = .ok (.iconst 0, 1) := by decide +kernel
theorem dL_law_2317 : decode code 2317 = .ok (.ireturn, 1) := by decide +kernel
theorem dL_law_2318 : decode code 2318 = .ok (.aload_n 1, 1) := by decide +kernel
theorem dL_law_2319 : decode code 2319 = .ok (.aload_n 0, 1) := by decide +kernel
theorem dL_law_2320 : decode code 2320 = .ok (.iload 4, 2) := by decide +kernel
theorem dL_law_2322 : decode code 2322 = .ok (.iconst 1, 1) := by decide +kernel
theorem dL_law_2323 : decode code 2323 = .ok (.iadd, 1) := by decide +kernel
theorem dL_law_2324 : decode code 2324 = .ok (.iaload, 1) := by decide +kernel
theorem dL_law_2325 : decode code 2325 = .ok (.aload_n 0, 1) := by decide +kernel
theorem dL_law_2326 : decode code 2326 = .ok (.iload 4, 2) := by decide +kernel
theorem dL_law_2328 : decode code 2328 = .ok (.iconst 2, 1) := by decide +kernel
theorem dL_law_2329 : decode code 2329 = .ok (.iadd, 1) := by decide +kernel
theorem dL_law_2330 : decode code 2330 = .ok (.iaload, 1) := by decide +kernel
theorem dL_law_2331 : decode code 2331 = .ok (.aload_n 3, 1) := by decide +kernel
theorem dL_law_2332 : decode code 2332 = .ok (.invokestatic 210, 3) := by decide +kernel
theorem dL_law_2335 : decode code 2335 = .ok (.istore 5, 2) := by decide +kernel
theorem dL_law_2337 : decode code 2337 = .ok (.aload_n 2, 1) := by decide +kernel
theorem dL_law_2338 : decode code 2338 = .ok (.aload_n 0, 1) := by decide +kernel
theorem dL_law_2339 : decode code 2339 = .ok (.iload 4, 2) := by decide +kernel
theorem dL_law_2341 : decode code 2341 = .ok (.iconst 1, 1) := by decide +kernel
theorem dL_law_2342 : decode code 2342 = .ok (.iadd, 1) := by decide +kernel
theorem dL_law_2343 : decode code 2343 = .ok (.iaload, 1) := by decide +kernel
theorem dL_law_2344 : decode code 2344 = .ok (.aload_n 0, 1) := by decide +kernel
theorem dL_law_2345 : decode code 2345 = .ok (.iload 4, 2) := by decide +kernel
theorem dL_law_2347 : decode code 2347 = .ok (.iconst 2, 1) := by decide +kernel
theorem dL_law_2348 : decode code 2348 = .ok (.iadd, 1) := by decide +kernel
theorem dL_law_2349 : decode code 2349 = .ok (.iaload, 1) := by decide +kernel
theorem dL_law_2350 : decode code 2350 = .ok (.invokevirtual 215, 3) := by decide +kernel
theorem dL_law_2353 : decode code 2353 = .ok (.istore 6, 2) := by decide +kernel
theorem dL_law_2355 : decode code 2355 = .ok (.aload_n 2, 1) := by decide +kernel
theorem dL_law_2356 : decode code 2356 = .ok (.invokevirtual 216, 3) := by decide +kernel
theorem dL_law_2359 : decode code 2359 = .ok (.iload 5, 2) := by decide +kernel
theorem dL_law_2361 : decode code 2361 = .ok (.if_icmp .eq 5, 3) := by decide +kernel
theorem dL_law_2364 : decode code 2364 = .ok (.iconst 0, 1) := by decide +kernel
theorem dL_law_2365 : decode code 2365 = .ok (.ireturn, 1) := by decide +kernel
theorem dL_law_2366 : decode code 2366 = .ok (.iload 5, 2) := by decide +kernel
theorem dL_law_2368 : decode code 2368 = .ok (.ifCond .ne 15, 3) := by decide +kernel
theorem dL_law_2371 : decode code 2371 = .ok (.aload_n 3, 1) := by decide +kernel
theorem dL_law_2372 : decode code 2372 = .ok (.iconst 0, 1) := by decide +kernel
theorem dL_law_2373 : decode code 2373 = .ok (.laload, 1) := by decide +kernel
theorem dL_law_2374 : decode code 2374 = .ok (.iload 6, 2) := by decide +kernel
theorem dL_law_2376 : decode code 2376 = .ok (.i2l, 1) := by decide +kernel
theorem dL_law_2377 : decode code 2377 = .ok (.lcmp, 1) := by decide +kernel
theorem dL_law_2378 : decode code 2378 = .ok (.ifCond .eq 5, 3) := by decide +kernel
theorem dL_law_2381 : decode code 2381 = .ok (.iconst 0, 1) := by decide +kernel
theorem dL_law_2382 : decode code 2382 = .ok (.ireturn, 1) := by decide +kernel
theorem dL_law_2383 : decode code 2383 = .ok (.goto 29, 3) := by decide +kernel
theorem dL_law_2386 : decode code 2386 = .ok (.aload_n 1, 1) := by decide +kernel
theorem dL_law_2387 : decode code 2387 = .ok (.invokevirtual 219, 3) := by decide +kernel
theorem dL_law_2390 : decode code 2390 = .ok (.aload_n 2, 1) := by decide +kernel
theorem dL_law_2391 : decode code 2391 = .ok (.invokevirtual 222, 3) := by decide +kernel
theorem dL_law_2394 : decode code 2394 = .ok (.if_icmp .eq 18, 3) := by decide +kernel
theorem dL_law_2397 : decode code 2397 = .ok (.iconst 0, 1) := by decide +kernel
theorem dL_law_2398 : decode code 2398 = .ok (.ireturn, 1) := by decide +kernel
theorem dL_law_2399 : decode code 2399 = .ok (.aload_n 1, 1) := by decide +kernel
theorem dL_law_2400 : decode code 2400 = .ok (.invokevirtual 223, 3) := by decide +kernel
theorem dL_law_2403 : decode code 2403 = .ok (.aload_n 2, 1) := by decide +kernel
theorem dL_law_2404 : decode code 2404 = .ok (.invokevirtual 226, 3) := by decide +kernel
theorem dL_law_2407 : decode code 2407 = .ok (.if_icmp .eq 5, 3) := by decide +kernel
theorem dL_law_2410 : decode code 2410 = .ok (.iconst 0, 1) := by decide +kernel
theorem dL_law_2411 : decode code 2411 = .ok (.ireturn, 1) := by decide +kernel
theorem dL_law_2412 : decode code 2412 = .ok (.iinc 4 7, 3) := by decide +kernel
theorem dL_law_2415 : decode code 2415 = .ok (.goto (-2392), 3) := by decide +kernel
theorem dL_law_2418 : decode code 2418 = .ok (.iconst 1, 1) := by decide +kernel
theorem dL_law_2419 : decode code 2419 = .ok (.ireturn, 1) := by decide +kernel
