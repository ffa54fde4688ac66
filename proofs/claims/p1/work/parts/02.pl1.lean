theorem dL_law_1260 : decode cL_law 1260 = .ok (.aload_n 0, 1) := by decide +kernel
theorem dL_law_1261 : decode cL_law 1261 = .ok (.iload_n 3, 1) := by decide +kernel
theorem dL_law_1262 : decode cL_law 1262 = .ok (.iconst 1, 1) := by decide +kernel
theorem dL_law_1263 : decode cL_law 1263 = .ok (.iadd, 1) := by decide +kernel
theorem dL_law_1264 : decode cL_law 1264 = .ok (.iaload, 1) := by decide +kernel
theorem dL_law_1265 : decode cL_law 1265 = .ok (.aload_n 0, 1) := by decide +kernel
theorem dL_law_1266 : decode cL_law 1266 = .ok (.iload_n 3, 1) := by decide +kernel
theorem dL_law_1267 : decode cL_law 1267 = .ok (.iconst 2, 1) := by decide +kernel
theorem dL_law_1268 : decode cL_law 1268 = .ok (.iadd, 1) := by decide +kernel
theorem dL_law_1269 : decode cL_law 1269 = .ok (.iaload, 1) := by decide +kernel
theorem dL_law_1270 : decode cL_law 1270 = .ok (.aload_n 0, 1) := by decide +kernel
theorem dL_law_1271 : decode cL_law 1271 = .ok (.iload_n 3, 1) := by decide +kernel
theorem dL_law_1272 : decode cL_law 1272 = .ok (.iconst 3, 1) := by decide +kernel
theorem dL_law_1273 : decode cL_law 1273 = .ok (.iadd, 1) := by decide +kernel
theorem dL_law_1274 : decode cL_law 1274 = .ok (.iaload, 1) := by decide +kernel
theorem dL_law_1275 : decode cL_law 1275 = .ok (.invokevirtual 157, 3) := by decide +kernel
theorem dL_law_1278 : decode cL_law 1278 = .ok (.if_icmp .eq 1065, 3) := by decide +kernel
theorem dL_law_1283 : decode cL_law 1283 = .ok (.aload_n 1, 1) := by decide +kernel
theorem dL_law_1284 : decode cL_law 1284 = .ok (.aload_n 0, 1) := by decide +kernel
theorem dL_law_1285 : decode cL_law 1285 = .ok (.iload_n 3, 1) := by decide +kernel
theorem dL_law_1286 : decode cL_law 1286 = .ok (.iconst 1, 1) := by decide +kernel
theorem dL_law_1287 : decode cL_law 1287 = .ok (.iadd, 1) := by decide +kernel
theorem dL_law_1288 : decode cL_law 1288 = .ok (.iaload, 1) := by decide +kernel
theorem dL_law_1289 : decode cL_law 1289 = .ok (.aload_n 0, 1) := by decide +kernel
theorem dL_law_1290 : decode cL_law 1290 = .ok (.iload_n 3, 1) := by decide +kernel
theorem dL_law_1291 : decode cL_law 1291 = .ok (.iconst 2, 1) := by decide +kernel
theorem dL_law_1292 : decode cL_law 1292 = .ok (.iadd, 1) := by decide +kernel
theorem dL_law_1293 : decode cL_law 1293 = .ok (.iaload, 1) := by decide +kernel
theorem dL_law_1294 : decode cL_law 1294 = .ok (.invokevirtual 158, 3) := by decide +kernel
theorem dL_law_1297 : decode cL_law 1297 = .ok (.aload_n 2, 1) := by decide +kernel
theorem dL_law_1298 : decode cL_law 1298 = .ok (.aload_n 0, 1) := by decide +kernel
theorem dL_law_1299 : decode cL_law 1299 = .ok (.iload_n 3, 1) := by decide +kernel
theorem dL_law_1300 : decode cL_law 1300 = .ok (.iconst 1, 1) := by decide +kernel
theorem dL_law_1301 : decode cL_law 1301 = .ok (.iadd, 1) := by decide +kernel
theorem dL_law_1302 : decode cL_law 1302 = .ok (.iaload, 1) := by decide +kernel
theorem dL_law_1303 : decode cL_law 1303 = .ok (.aload_n 0, 1) := by decide +kernel
theorem dL_law_1304 : decode cL_law 1304 = .ok (.iload_n 3, 1) := by decide +kernel
theorem dL_law_1305 : decode cL_law 1305 = .ok (.iconst 2, 1) := by decide +kernel
theorem dL_law_1306 : decode cL_law 1306 = .ok (.iadd, 1) := by decide +kernel
theorem dL_law_1307 : decode cL_law 1307 = .ok (.iaload, 1) := by decide +kernel
theorem dL_law_1308 : decode cL_law 1308 = .ok (.invokevirtual 161, 3) := by decide +kernel
theorem dL_law_1311 : decode cL_law 1311 = .ok (.if_icmp .eq 1032, 3) := by decide +kernel
theorem dL_law_1316 : decode cL_law 1316 = .ok (.aload_n 1, 1) := by decide +kernel
theorem dL_law_1317 : decode cL_law 1317 = .ok (.aload_n 0, 1) := by decide +kernel
theorem dL_law_1318 : decode cL_law 1318 = .ok (.iload_n 3, 1) := by decide +kernel
theorem dL_law_1319 : decode cL_law 1319 = .ok (.iconst 1, 1) := by decide +kernel
theorem dL_law_1320 : decode cL_law 1320 = .ok (.iadd, 1) := by decide +kernel
theorem dL_law_1321 : decode cL_law 1321 = .ok (.iaload, 1) := by decide +kernel
theorem dL_law_1322 : decode cL_law 1322 = .ok (.aload_n 0, 1) := by decide +kernel
theorem dL_law_1323 : decode cL_law 1323 = .ok (.iload_n 3, 1) := by decide +kernel
theorem dL_law_1324 : decode cL_law 1324 = .ok (.iconst 2, 1) := by decide +kernel
theorem dL_law_1325 : decode cL_law 1325 = .ok (.iadd, 1) := by decide +kernel
theorem dL_law_1326 : decode cL_law 1326 = .ok (.iaload, 1) := by decide +kernel
theorem dL_law_1327 : decode cL_law 1327 = .ok (.invokevirtual 162, 3) := by decide +kernel
theorem dL_law_1330 : decode cL_law 1330 = .ok (.aload_n 2, 1) := by decide +kernel
theorem dL_law_1331 : decode cL_law 1331 = .ok (.aload_n 0, 1) := by decide +kernel
theorem dL_law_1332 : decode cL_law 1332 = .ok (.iload_n 3, 1) := by decide +kernel
theorem dL_law_1333 : decode cL_law 1333 = .ok (.iconst 1, 1) := by decide +kernel
theorem dL_law_1334 : decode cL_law 1334 = .ok (.iadd, 1) := by decide +kernel
theorem dL_law_1335 : decode cL_law 1335 = .ok (.iaload, 1) := by decide +kernel
theorem dL_law_1336 : decode cL_law 1336 = .ok (.aload_n 0, 1) := by decide +kernel
theorem dL_law_1337 : decode cL_law 1337 = .ok (.iload_n 3, 1) := by decide +kernel
theorem dL_law_1338 : decode cL_law 1338 = .ok (.iconst 2, 1) := by decide +kernel
theorem dL_law_1339 : decode cL_law 1339 = .ok (.iadd, 1) := by decide +kernel
theorem dL_law_1340 : decode cL_law 1340 = .ok (.iaload, 1) := by decide +kernel
theorem dL_law_1341 : decode cL_law 1341 = .ok (.invokevirtual 165, 3) := by decide +kernel
theorem dL_law_1344 : decode cL_law 1344 = .ok (.if_icmp .eq 999, 3) := by decide +kernel
theorem dL_law_1349 : decode cL_law 1349 = .ok (.aload_n 1, 1) := by decide +kernel
theorem dL_law_1350 : decode cL_law 1350 = .ok (.aload_n 0, 1) := by decide +kernel
theorem dL_law_1351 : decode cL_law 1351 = .ok (.iload_n 3, 1) := by decide +kernel
theorem dL_law_1352 : decode cL_law 1352 = .ok (.iconst 1, 1) := by decide +kernel
theorem dL_law_1353 : decode cL_law 1353 = .ok (.iadd, 1) := by decide +kernel
theorem dL_law_1354 : decode cL_law 1354 = .ok (.iaload, 1) := by decide +kernel
theorem dL_law_1355 : decode cL_law 1355 = .ok (.invokevirtual 166, 3) := by decide +kernel
theorem dL_law_1358 : decode cL_law 1358 = .ok (.aload_n 2, 1) := by decide +kernel
theorem dL_law_1359 : decode cL_law 1359 = .ok (.aload_n 0, 1) := by decide +kernel
theorem dL_law_1360 : decode cL_law 1360 = .ok (.iload_n 3, 1) := by decide +kernel
theorem dL_law_1361 : decode cL_law 1361 = .ok (.iconst 1, 1) := by decide +kernel
theorem dL_law_1362 : decode cL_law 1362 = .ok (.iadd, 1) := by decide +kernel
theorem dL_law_1363 : decode cL_law 1363 = .ok (.iaload, 1) := by decide +kernel
theorem dL_law_1364 : decode cL_law 1364 = .ok (.invokevirtual 169, 3) := by decide +kernel
theorem dL_law_1367 : decode cL_law 1367 = .ok (.if_icmp .eq 976, 3) := by decide +kernel
theorem dL_law_1372 : decode cL_law 1372 = .ok (.aload_n 1, 1) := by decide +kernel
theorem dL_law_1373 : decode cL_law 1373 = .ok (.aload_n 0, 1) := by decide +kernel
theorem dL_law_1374 : decode cL_law 1374 = .ok (.iload_n 3, 1) := by decide +kernel
theorem dL_law_1375 : decode cL_law 1375 = .ok (.iconst 1, 1) := by decide +kernel
theorem dL_law_1376 : decode cL_law 1376 = .ok (.iadd, 1) := by decide +kernel
theorem dL_law_1377 : decode cL_law 1377 = .ok (.iaload, 1) := by decide +kernel
theorem dL_law_1378 : decode cL_law 1378 = .ok (.aload_n 0, 1) := by decide +kernel
theorem dL_law_1379 : decode cL_law 1379 = .ok (.iload_n 3, 1) := by decide +kernel
theorem dL_law_1380 : decode cL_law 1380 = .ok (.iconst 2, 1) := by decide +kernel
theorem dL_law_1381 : decode cL_law 1381 = .ok (.iadd, 1) := by decide +kernel
theorem dL_law_1382 : decode cL_law 1382 = .ok (.iaload, 1) := by decide +kernel
theorem dL_law_1383 : decode cL_law 1383 = .ok (.invokevirtual 170, 3) := by decide +kernel
theorem dL_law_1386 : decode cL_law 1386 = .ok (.aload_n 2, 1) := by decide +kernel
theorem dL_law_1387 : decode cL_law 1387 = .ok (.aload_n 0, 1) := by decide +kernel
theorem dL_law_1388 : decode cL_law 1388 = .ok (.iload_n 3, 1) := by decide +kernel
theorem dL_law_1389 : decode cL_law 1389 = .ok (.iconst 1, 1) := by decide +kernel
theorem dL_law_1390 : decode cL_law 1390 = .ok (.iadd, 1) := by decide +kernel
theorem dL_law_1391 : decode cL_law 1391 = .ok (.iaload, 1) := by decide +kernel
theorem dL_law_1392 : decode cL_law 1392 = .ok (.aload_n 0, 1) := by decide +kernel
theorem dL_law_1393 : decode cL_law 1393 = .ok (.iload_n 3, 1) := by decide +kernel
theorem dL_law_1394 : decode cL_law 1394 = .ok (.iconst 2, 1) := by decide +kernel
theorem dL_law_1395 : decode cL_law 1395 = .ok (.iadd, 1) := by decide +kernel
theorem dL_law_1396 : decode cL_law 1396 = .ok (.iaload, 1) := by decide +kernel
theorem dL_law_1397 : decode cL_law 1397 = .ok (.invokevirtual 173, 3) := by decide +kernel
theorem dL_law_1400 : decode cL_law 1400 = .ok (.if_icmp .eq 943, 3) := by decide +kernel
theorem dL_law_1405 : decode cL_law 1405 = .ok (.aload_n 1, 1) := by decide +kernel
theorem dL_law_1406 : decode cL_law 1406 = .ok (.aload_n 0, 1) := by decide +kernel
theorem dL_law_1407 : decode cL_law 1407 = .ok (.iload_n 3, 1) := by decide +kernel
theorem dL_law_1408 : decode cL_law 1408 = .ok (.iconst 1, 1) := by decide +kernel
theorem dL_law_1409 : decode cL_law 1409 = .ok (.iadd, 1) := by decide +kernel
theorem dL_law_1410 : decode cL_law 1410 = .ok (.iaload, 1) := by decide +kernel
theorem dL_law_1411 : decode cL_law 1411 = .ok (.invokevirtual 174, 3) := by decide +kernel
theorem dL_law_1414 : decode cL_law 1414 = .ok (.aload_n 2, 1) := by decide +kernel
theorem dL_law_1415 : decode cL_law 1415 = .ok (.aload_n 0, 1) := by decide +kernel
theorem dL_law_1416 : decode cL_law 1416 = .ok (.iload_n 3, 1) := by decide +kernel
theorem dL_law_1417 : decode cL_law 1417 = .ok (.iconst 1, 1) := by decide +kernel
theorem dL_law_1418 : decode cL_law 1418 = .ok (.iadd, 1) := by decide +kernel
theorem dL_law_1419 : decode cL_law 1419 = .ok (.iaload, 1) := by decide +kernel
theorem dL_law_1420 : decode cL_law 1420 = .ok (.invokevirtual 177, 3) := by decide +kernel
theorem dL_law_1423 : decode cL_law 1423 = .ok (.if_icmp .eq 920, 3) := by decide +kernel
theorem dL_law_1428 : decode cL_law 1428 = .ok (.aload_n 1, 1) := by decide +kernel
theorem dL_law_1429 : decode cL_law 1429 = .ok (.aload_n 0, 1) := by decide +kernel
theorem dL_law_1430 : decode cL_law 1430 = .ok (.iload_n 3, 1) := by decide +kernel
theorem dL_law_1431 : decode cL_law 1431 = .ok (.iconst 1, 1) := by decide +kernel
theorem dL_law_1432 : decode cL_law 1432 = .ok (.iadd, 1) := by decide +kernel
theorem dL_law_1433 : decode cL_law 1433 = .ok (.iaload, 1) := by decide +kernel
theorem dL_law_1434 : decode cL_law 1434 = .ok (.aload_n 0, 1) := by decide +kernel
theorem dL_law_1435 : decode cL_law 1435 = .ok (.iload_n 3, 1) := by decide +kernel
theorem dL_law_1436 : decode cL_law 1436 = .ok (.iconst 2, 1) := by decide +kernel
theorem dL_law_1437 : decode cL_law 1437 = .ok (.iadd, 1) := by decide +kernel
theorem dL_law_1438 : decode cL_law 1438 = .ok (.iaload, 1) := by decide +kernel
theorem dL_law_1439 : decode cL_law 1439 = .ok (.invokevirtual 178, 3) := by decide +kernel
theorem dL_law_1442 : decode cL_law 1442 = .ok (.aload_n 2, 1) := by decide +kernel
theorem dL_law_1443 : decode cL_law 1443 = .ok (.aload_n 0, 1) := by decide +kernel
theorem dL_law_1444 : decode cL_law 1444 = .ok (.iload_n 3, 1) := by decide +kernel
theorem dL_law_1445 : decode cL_law 1445 = .ok (.iconst 1, 1) := by decide +kernel
theorem dL_law_1446 : decode cL_law 1446 = .ok (.iadd, 1) := by decide +kernel
theorem dL_law_1447 : decode cL_law 1447 = .ok (.iaload, 1) := by decide +kernel
theorem dL_law_1448 : decode cL_law 1448 = .ok (.aload_n 0, 1) := by decide +kernel
theorem dL_law_1449 : decode cL_law 1449 = .ok (.iload_n 3, 1) := by decide +kernel
theorem dL_law_1450 : decode cL_law 1450 = .ok (.iconst 2, 1) := by decide +kernel
theorem dL_law_1451 : decode cL_law 1451 = .ok (.iadd, 1) := by decide +kernel
theorem dL_law_1452 : decode cL_law 1452 = .ok (.iaload, 1) := by decide +kernel
theorem dL_law_1453 : decode cL_law 1453 = .ok (.invokevirtual 181, 3) := by decide +kernel
theorem dL_law_1456 : decode cL_law 1456 = .ok (.if_icmp .eq 887, 3) := by decide +kernel
theorem dL_law_1461 : decode cL_law 1461 = .ok (.aload_n 1, 1) := by decide +kernel
theorem dL_law_1462 : decode cL_law 1462 = .ok (.aload_n 0, 1) := by decide +kernel
theorem dL_law_1463 : decode cL_law 1463 = .ok (.iload_n 3, 1) := by decide +kernel
theorem dL_law_1464 : decode cL_law 1464 = .ok (.iconst 1, 1) := by decide +kernel
theorem dL_law_1465 : decode cL_law 1465 = .ok (.iadd, 1) := by decide +kernel
theorem dL_law_1466 : decode cL_law 1466 = .ok (.iaload, 1) := by decide +kernel
theorem dL_law_1467 : decode cL_law 1467 = .ok (.aload_n 0, 1) := by decide +kernel
theorem dL_law_1468 : decode cL_law 1468 = .ok (.iload_n 3, 1) := by decide +kernel
theorem dL_law_1469 : decode cL_law 1469 = .ok (.iconst 2, 1) := by decide +kernel
theorem dL_law_1470 : decode cL_law 1470 = .ok (.iadd, 1) := by decide +kernel
theorem dL_law_1471 : decode cL_law 1471 = .ok (.iaload, 1) := by decide +kernel
theorem dL_law_1472 : decode cL_law 1472 = .ok (.invokevirtual 182, 3) := by decide +kernel
theorem dL_law_1475 : decode cL_law 1475 = .ok (.aload_n 2, 1) := by decide +kernel
theorem dL_law_1476 : decode cL_law 1476 = .ok (.aload_n 0, 1) := by decide +kernel
theorem dL_law_1477 : decode cL_law 1477 = .ok (.iload_n 3, 1) := by decide +kernel
theorem dL_law_1478 : decode cL_law 1478 = .ok (.iconst 1, 1) := by decide +kernel
theorem dL_law_1479 : decode cL_law 1479 = .ok (.iadd, 1) := by decide +kernel
theorem dL_law_1480 : decode cL_law 1480 = .ok (.iaload, 1) := by decide +kernel
theorem dL_law_1481 : decode cL_law 1481 = .ok (.aload_n 0, 1) := by decide +kernel
theorem dL_law_1482 : decode cL_law 1482 = .ok (.iload_n 3, 1) := by decide +kernel
theorem dL_law_1483 : decode cL_law 1483 = .ok (.iconst 2, 1) := by decide +kernel
theorem dL_law_1484 : decode cL_law 1484 = .ok (.iadd, 1) := by decide +kernel
theorem dL_law_1485 : decode cL_law 1485 = .ok (.iaload, 1) := by decide +kernel
theorem dL_law_1486 : decode cL_law 1486 = .ok (.invokevirtual 185, 3) := by decide +kernel
theorem dL_law_1489 : decode cL_law 1489 = .ok (.if_icmp .eq 854, 3) := by decide +kernel
theorem dL_law_1494 : decode cL_law 1494 = .ok (.aload_n 1, 1) := by decide +kernel
theorem dL_law_1495 : decode cL_law 1495 = .ok (.aload_n 0, 1) := by decide +kernel
theorem dL_law_1496 : decode cL_law 1496 = .ok (.iload_n 3, 1) := by decide +kernel
theorem dL_law_1497 : decode cL_law 1497 = .ok (.iconst 1, 1) := by decide +kernel
theorem dL_law_1498 : decode cL_law 1498 = .ok (.iadd, 1) := by decide +kernel
theorem dL_law_1499 : decode cL_law 1499 = .ok (.iaload, 1) := by decide +kernel
theorem dL_law_1500 : decode cL_law 1500 = .ok (.invokevirtual 186, 3) := by decide +kernel
theorem dL_law_1503 : decode cL_law 1503 = .ok (.aload_n 2, 1) := by decide +kernel
theorem dL_law_1504 : decode cL_law 1504 = .ok (.aload_n 0, 1) := by decide +kernel
theorem dL_law_1505 : decode cL_law 1505 = .ok (.iload_n 3, 1) := by decide +kernel
theorem dL_law_1506 : decode cL_law 1506 = .ok (.iconst 1, 1) := by decide +kernel
theorem dL_law_1507 : decode cL_law 1507 = .ok (.iadd, 1) := by decide +kernel
theorem dL_law_1508 : decode cL_law 1508 = .ok (.iaload, 1) := by decide +kernel
theorem dL_law_1509 : decode cL_law 1509 = .ok (.invokevirtual 189, 3) := by decide +kernel
theorem dL_law_1512 : decode cL_law 1512 = .ok (.if_icmp .eq 831, 3) := by decide +kernel
theorem dL_law_1517 : decode cL_law 1517 = .ok (.aload_n 1, 1) := by decide +kernel
theorem dL_law_1518 : decode cL_law 1518 = .ok (.aload_n 0, 1) := by decide +kernel
theorem dL_law_1519 : decode cL_law 1519 = .ok (.iload_n 3, 1) := by decide +kernel
theorem dL_law_1520 : decode cL_law 1520 = .ok (.iconst 1, 1) := by decide +kernel
theorem dL_law_1521 : decode cL_law 1521 = .ok (.iadd, 1) := by decide +kernel
theorem dL_law_1522 : decode cL_law 1522 = .ok (.iaload, 1) := by decide +kernel
theorem dL_law_1523 : decode cL_law 1523 = .ok (.invokevirtual 190, 3) := by decide +kernel
theorem dL_law_1526 : decode cL_law 1526 = .ok (.aload_n 2, 1) := by decide +kernel
theorem dL_law_1527 : decode cL_law 1527 = .ok (.aload_n 0, 1) := by decide +kernel
theorem dL_law_1528 : decode cL_law 1528 = .ok (.iload_n 3, 1) := by decide +kernel
theorem dL_law_1529 : decode cL_law 1529 = .ok (.iconst 1, 1) := by decide +kernel
theorem dL_law_1530 : decode cL_law 1530 = .ok (.iadd, 1) := by decide +kernel
theorem dL_law_1531 : decode cL_law 1531 = .ok (.iaload, 1) := by decide +kernel
theorem dL_law_1532 : decode cL_law 1532 = .ok (.invokevirtual 193, 3) := by decide +kernel
theorem dL_law_1535 : decode cL_law 1535 = .ok (.if_icmp .eq 808, 3) := by decide +kernel
theorem dL_law_1540 : decode cL_law 1540 = .ok (.aload_n 1, 1) := by decide +kernel
theorem dL_law_1541 : decode cL_law 1541 = .ok (.aload_n 0, 1) := by decide +kernel
theorem dL_law_1542 : decode cL_law 1542 = .ok (.iload_n 3, 1) := by decide +kernel
theorem dL_law_1543 : decode cL_law 1543 = .ok (.iconst 1, 1) := by decide +kernel
theorem dL_law_1544 : decode cL_law 1544 = .ok (.iadd, 1) := by decide +kernel
theorem dL_law_1545 : decode cL_law 1545 = .ok (.iaload, 1) := by decide +kernel
theorem dL_law_1546 : decode cL_law 1546 = .ok (.invokevirtual 194, 3) := by decide +kernel
theorem dL_law_1549 : decode cL_law 1549 = .ok (.aload_n 2, 1) := by decide +kernel
theorem dL_law_1550 : decode cL_law 1550 = .ok (.aload_n 0, 1) := by decide +kernel
theorem dL_law_1551 : decode cL_law 1551 = .ok (.iload_n 3, 1) := by decide +kernel
theorem dL_law_1552 : decode cL_law 1552 = .ok (.iconst 1, 1) := by decide +kernel
theorem dL_law_1553 : decode cL_law 1553 = .ok (.iadd, 1) := by decide +kernel
theorem dL_law_1554 : decode cL_law 1554 = .ok (.iaload, 1) := by decide +kernel
theorem dL_law_1555 : decode cL_law 1555 = .ok (.invokevirtual 197, 3) := by decide +kernel
theorem dL_law_1558 : decode cL_law 1558 = .ok (.if_icmp .eq 785, 3) := by decide +kernel
theorem dL_law_1563 : decode cL_law 1563 = .ok (.aload_n 1, 1) := by decide +kernel
theorem dL_law_1564 : decode cL_law 1564 = .ok (.aload_n 0, 1) := by decide +kernel
theorem dL_law_1565 : decode cL_law 1565 = .ok (.iload_n 3, 1) := by decide +kernel
theorem dL_law_1566 : decode cL_law 1566 = .ok (.iconst 1, 1) := by decide +kernel
theorem dL_law_1567 : decode cL_law 1567 = .ok (.iadd, 1) := by decide +kernel
theorem dL_law_1568 : decode cL_law 1568 = .ok (.iaload, 1) := by decide +kernel
theorem dL_law_1569 : decode cL_law 1569 = .ok (.invokevirtual 198, 3) := by decide +kernel
theorem dL_law_1572 : decode cL_law 1572 = .ok (.aload_n 2, 1) := by decide +kernel
theorem dL_law_1573 : decode cL_law 1573 = .ok (.aload_n 0, 1) := by decide +kernel
theorem dL_law_1574 : decode cL_law 1574 = .ok (.iload_n 3, 1) := by decide +kernel
theorem dL_law_1575 : decode cL_law 1575 = .ok (.iconst 1, 1) := by decide +kernel
theorem dL_law_1576 : decode cL_law 1576 = .ok (.iadd, 1) := by decide +kernel
theorem dL_law_1577 : decode cL_law 1577 = .ok (.iaload, 1) := by decide +kernel
theorem dL_law_1578 : decode cL_law 1578 = .ok (.invokevirtual 201, 3) := by decide +kernel
theorem dL_law_1581 : decode cL_law 1581 = .ok (.if_icmp .eq 762, 3) := by decide +kernel
theorem dL_law_1586 : decode cL_law 1586 = .ok (.aload_n 1, 1) := by decide +kernel
theorem dL_law_1587 : decode cL_law 1587 = .ok (.aload_n 0, 1) := by decide +kernel
theorem dL_law_1588 : decode cL_law 1588 = .ok (.iload_n 3, 1) := by decide +kernel
theorem dL_law_1589 : decode cL_law 1589 = .ok (.iconst 1, 1) := by decide +kernel
theorem dL_law_1590 : decode cL_law 1590 = .ok (.iadd, 1) := by decide +kernel
theorem dL_law_1591 : decode cL_law 1591 = .ok (.iaload, 1) := by decide +kernel
theorem dL_law_1592 : decode cL_law 1592 = .ok (.aload_n 0, 1) := by decide +kernel
theorem dL_law_1593 : decode cL_law 1593 = .ok (.iload_n 3, 1) := by decide +kernel
theorem dL_law_1594 : decode cL_law 1594 = .ok (.iconst 2, 1) := by decide +kernel
theorem dL_law_1595 : decode cL_law 1595 = .ok (.iadd, 1) := by decide +kernel
theorem dL_law_1596 : decode cL_law 1596 = .ok (.iaload, 1) := by decide +kernel
theorem dL_law_1597 : decode cL_law 1597 = .ok (.invokevirtual 202, 3) := by decide +kernel
theorem dL_law_1600 : decode cL_law 1600 = .ok (.aload_n 2, 1) := by decide +kernel
theorem dL_law_1601 : decode cL_law 1601 = .ok (.aload_n 0, 1) := by decide +kernel
theorem dL_law_1602 : decode cL_law 1602 = .ok (.iload_n 3, 1) := by decide +kernel
theorem dL_law_1603 : decode cL_law 1603 = .ok (.iconst 1, 1) := by decide +kernel
theorem dL_law_1604 : decode cL_law 1604 = .ok (.iadd, 1) := by decide +kernel
theorem dL_law_1605 : decode cL_law 1605 = .ok (.iaload, 1) := by decide +kernel
theorem dL_law_1606 : decode cL_law 1606 = .ok (.aload_n 0, 1) := by decide +kernel
theorem dL_law_1607 : decode cL_law 1607 = .ok (.iload_n 3, 1) := by decide +kernel
theorem dL_law_1608 : decode cL_law 1608 = .ok (.iconst 2, 1) := by decide +kernel
theorem dL_law_1609 : decode cL_law 1609 = .ok (.iadd, 1) := by decide +kernel
theorem dL_law_1610 : decode cL_law 1610 = .ok (.iaload, 1) := by decide +kernel
theorem dL_law_1611 : decode cL_law 1611 = .ok (.invokevirtual 205, 3) := by decide +kernel
theorem dL_law_1614 : decode cL_law 1614 = .ok (.if_icmp .eq 729, 3) := by decide +kernel
theorem dL_law_1619 : decode cL_law 1619 = .ok (.aload_n 1, 1) := by decide +kernel
theorem dL_law_1620 : decode cL_law 1620 = .ok (.aload_n 0, 1) := by decide +kernel
theorem dL_law_1621 : decode cL_law 1621 = .ok (.iload_n 3, 1) := by decide +kernel
theorem dL_law_1622 : decode cL_law 1622 = .ok (.iconst 1, 1) := by decide +kernel
theorem dL_law_1623 : decode cL_law 1623 = .ok (.iadd, 1) := by decide +kernel
theorem dL_law_1624 : decode cL_law 1624 = .ok (.iaload, 1) := by decide +kernel
theorem dL_law_1625 : decode cL_law 1625 = .ok (.aload_n 0, 1) := by decide +kernel
theorem dL_law_1626 : decode cL_law 1626 = .ok (.iload_n 3, 1) := by decide +kernel
theorem dL_law_1627 : decode cL_law 1627 = .ok (.iconst 2, 1) := by decide +kernel
theorem dL_law_1628 : decode cL_law 1628 = .ok (.iadd, 1) := by decide +kernel
theorem dL_law_1629 : decode cL_law 1629 = .ok (.iaload, 1) := by decide +kernel
theorem dL_law_1630 : decode cL_law 1630 = .ok (.aload_n 0, 1) := by decide +kernel
theorem dL_law_1631 : decode cL_law 1631 = .ok (.iload_n 3, 1) := by decide +kernel
theorem dL_law_1632 : decode cL_law 1632 = .ok (.iconst 3, 1) := by decide +kernel
theorem dL_law_1633 : decode cL_law 1633 = .ok (.iadd, 1) := by decide +kernel
theorem dL_law_1634 : decode cL_law 1634 = .ok (.iaload, 1) := by decide +kernel
theorem dL_law_1635 : decode cL_law 1635 = .ok (.invokevirtual 206, 3) := by decide +kernel
theorem dL_law_1638 : decode cL_law 1638 = .ok (.aload_n 2, 1) := by decide +kernel
theorem dL_law_1639 : decode cL_law 1639 = .ok (.aload_n 0, 1) := by decide +kernel
theorem dL_law_1640 : decode cL_law 1640 = .ok (.iload_n 3, 1) := by decide +kernel
theorem dL_law_1641 : decode cL_law 1641 = .ok (.iconst 1, 1) := by decide +kernel
theorem dL_law_1642 : decode cL_law 1642 = .ok (.iadd, 1) := by decide +kernel
theorem dL_law_1643 : decode cL_law 1643 = .ok (.iaload, 1) := by decide +kernel
theorem dL_law_1644 : decode cL_law 1644 = .ok (.aload_n 0, 1) := by decide +kernel
theorem dL_law_1645 : decode cL_law 1645 = .ok (.iload_n 3, 1) := by decide +kernel
theorem dL_law_1646 : decode cL_law 1646 = .ok (.iconst 2, 1) := by decide +kernel
theorem dL_law_1647 : decode cL_law 1647 = .ok (.iadd, 1) := by decide +kernel
theorem dL_law_1648 : decode cL_law 1648 = .ok (.iaload, 1) := by decide +kernel
theorem dL_law_1649 : decode cL_law 1649 = .ok (.aload_n 0, 1) := by decide +kernel
theorem dL_law_1650 : decode cL_law 1650 = .ok (.iload_n 3, 1) := by decide +kernel
theorem dL_law_1651 : decode cL_law 1651 = .ok (.iconst 3, 1) := by decide +kernel
theorem dL_law_1652 : decode cL_law 1652 = .ok (.iadd, 1) := by decide +kernel
theorem dL_law_1653 : decode cL_law 1653 = .ok (.iaload, 1) := by decide +kernel
theorem dL_law_1654 : decode cL_law 1654 = .ok (.invokevirtual 209, 3) := by decide +kernel
theorem dL_law_1657 : decode cL_law 1657 = .ok (.if_icmp .eq 686, 3) := by decide +kernel
theorem dL_law_1662 : decode cL_law 1662 = .ok (.aload_n 1, 1) := by decide +kernel
theorem dL_law_1663 : decode cL_law 1663 = .ok (.aload_n 0, 1) := by decide +kernel
theorem dL_law_1664 : decode cL_law 1664 = .ok (.iload_n 3, 1) := by decide +kernel
theorem dL_law_1665 : decode cL_law 1665 = .ok (.iconst 1, 1) := by decide +kernel
theorem dL_law_1666 : decode cL_law 1666 = .ok (.iadd, 1) := by decide +kernel
theorem dL_law_1667 : decode cL_law 1667 = .ok (.iaload, 1) := by decide +kernel
theorem dL_law_1668 : decode cL_law 1668 = .ok (.aload_n 0, 1) := by decide +kernel
theorem dL_law_1669 : decode cL_law 1669 = .ok (.iload_n 3, 1) := by decide +kernel
theorem dL_law_1670 : decode cL_law 1670 = .ok (.iconst 2, 1) := by decide +kernel
theorem dL_law_1671 : decode cL_law 1671 = .ok (.iadd, 1) := by decide +kernel
theorem dL_law_1672 : decode cL_law 1672 = .ok (.iaload, 1) := by decide +kernel
theorem dL_law_1673 : decode cL_law 1673 = .ok (.invokevirtual 210, 3) := by decide +kernel
theorem dL_law_1676 : decode cL_law 1676 = .ok (.aload_n 2, 1) := by decide +kernel
theorem dL_law_1677 : decode cL_law 1677 = .ok (.aload_n 0, 1) := by decide +kernel
theorem dL_law_1678 : decode cL_law 1678 = .ok (.iload_n 3, 1) := by decide +kernel
theorem dL_law_1679 : decode cL_law 1679 = .ok (.iconst 1, 1) := by decide +kernel
theorem dL_law_1680 : decode cL_law 1680 = .ok (.iadd, 1) := by decide +kernel
theorem dL_law_1681 : decode cL_law 1681 = .ok (.iaload, 1) := by decide +kernel
theorem dL_law_1682 : decode cL_law 1682 = .ok (.aload_n 0, 1) := by decide +kernel
theorem dL_law_1683 : decode cL_law 1683 = .ok (.iload_n 3, 1) := by decide +kernel
theorem dL_law_1684 : decode cL_law 1684 = .ok (.iconst 2, 1) := by decide +kernel
theorem dL_law_1685 : decode cL_law 1685 = .ok (.iadd, 1) := by decide +kernel
theorem dL_law_1686 : decode cL_law 1686 = .ok (.iaload, 1) := by decide +kernel
theorem dL_law_1687 : decode cL_law 1687 = .ok (.invokevirtual 213, 3) := by decide +kernel
theorem dL_law_1690 : decode cL_law 1690 = .ok (.if_icmp .eq 653, 3) := by decide +kernel
theorem dL_law_1695 : decode cL_law 1695 = .ok (.aload_n 1, 1) := by decide +kernel
theorem dL_law_1696 : decode cL_law 1696 = .ok (.aload_n 0, 1) := by decide +kernel
theorem dL_law_1697 : decode cL_law 1697 = .ok (.iload_n 3, 1) := by decide +kernel
theorem dL_law_1698 : decode cL_law 1698 = .ok (.iconst 1, 1) := by decide +kernel
theorem dL_law_1699 : decode cL_law 1699 = .ok (.iadd, 1) := by decide +kernel
theorem dL_law_1700 : decode cL_law 1700 = .ok (.iaload, 1) := by decide +kernel
theorem dL_law_1701 : decode cL_law 1701 = .ok (.aload_n 0, 1) := by decide +kernel
theorem dL_law_1702 : decode cL_law 1702 = .ok (.iload_n 3, 1) := by decide +kernel
theorem dL_law_1703 : decode cL_law 1703 = .ok (.iconst 2, 1) := by decide +kernel
theorem dL_law_1704 : decode cL_law 1704 = .ok (.iadd, 1) := by decide +kernel
theorem dL_law_1705 : decode cL_law 1705 = .ok (.iaload, 1) := by decide +kernel
theorem dL_law_1706 : decode cL_law 1706 = .ok (.invokevirtual 214, 3) := by decide +kernel
theorem dL_law_1709 : decode cL_law 1709 = .ok (.aload_n 2, 1) := by decide +kernel
theorem dL_law_1710 : decode cL_law 1710 = .ok (.aload_n 0, 1) := by decide +kernel
theorem dL_law_1711 : decode cL_law 1711 = .ok (.iload_n 3, 1) := by decide +kernel
theorem dL_law_1712 : decode cL_law 1712 = .ok (.iconst 1, 1) := by decide +kernel
theorem dL_law_1713 : decode cL_law 1713 = .ok (.iadd, 1) := by decide +kernel
theorem dL_law_1714 : decode cL_law 1714 = .ok (.iaload, 1) := by decide +kernel
theorem dL_law_1715 : decode cL_law 1715 = .ok (.aload_n 0, 1) := by decide +kernel
theorem dL_law_1716 : decode cL_law 1716 = .ok (.iload_n 3, 1) := by decide +kernel
theorem dL_law_1717 : decode cL_law 1717 = .ok (.iconst 2, 1) := by decide +kernel
theorem dL_law_1718 : decode cL_law 1718 = .ok (.iadd, 1) := by decide +kernel
theorem dL_law_1719 : decode cL_law 1719 = .ok (.iaload, 1) := by decide +kernel
theorem dL_law_1720 : decode cL_law 1720 = .ok (.invokevirtual 217, 3) := by decide +kernel
theorem dL_law_1723 : decode cL_law 1723 = .ok (.if_icmp .eq 620, 3) := by decide +kernel
theorem dL_law_1728 : decode cL_law 1728 = .ok (.aload_n 1, 1) := by decide +kernel
theorem dL_law_1729 : decode cL_law 1729 = .ok (.aload_n 0, 1) := by decide +kernel
theorem dL_law_1730 : decode cL_law 1730 = .ok (.iload_n 3, 1) := by decide +kernel
theorem dL_law_1731 : decode cL_law 1731 = .ok (.iconst 1, 1) := by decide +kernel
theorem dL_law_1732 : decode cL_law 1732 = .ok (.iadd, 1) := by decide +kernel
theorem dL_law_1733 : decode cL_law 1733 = .ok (.iaload, 1) := by decide +kernel
theorem dL_law_1734 : decode cL_law 1734 = .ok (.aload_n 0, 1) := by decide +kernel
theorem dL_law_1735 : decode cL_law 1735 = .ok (.iload_n 3, 1) := by decide +kernel
theorem dL_law_1736 : decode cL_law 1736 = .ok (.iconst 2, 1) := by decide +kernel
theorem dL_law_1737 : decode cL_law 1737 = .ok (.iadd, 1) := by decide +kernel
theorem dL_law_1738 : decode cL_law 1738 = .ok (.iaload, 1) := by decide +kernel
theorem dL_law_1739 : decode cL_law 1739 = .ok (.invokevirtual 218, 3) := by decide +kernel
theorem dL_law_1742 : decode cL_law 1742 = .ok (.aload_n 2, 1) := by decide +kernel
theorem dL_law_1743 : decode cL_law 1743 = .ok (.aload_n 0, 1) := by decide +kernel
theorem dL_law_1744 : decode cL_law 1744 = .ok (.iload_n 3, 1) := by decide +kernel
theorem dL_law_1745 : decode cL_law 1745 = .ok (.iconst 1, 1) := by decide +kernel
theorem dL_law_1746 : decode cL_law 1746 = .ok (.iadd, 1) := by decide +kernel
theorem dL_law_1747 : decode cL_law 1747 = .ok (.iaload, 1) := by decide +kernel
theorem dL_law_1748 : decode cL_law 1748 = .ok (.aload_n 0, 1) := by decide +kernel
theorem dL_law_1749 : decode cL_law 1749 = .ok (.iload_n 3, 1) := by decide +kernel
theorem dL_law_1750 : decode cL_law 1750 = .ok (.iconst 2, 1) := by decide +kernel
theorem dL_law_1751 : decode cL_law 1751 = .ok (.iadd, 1) := by decide +kernel
theorem dL_law_1752 : decode cL_law 1752 = .ok (.iaload, 1) := by decide +kernel
theorem dL_law_1753 : decode cL_law 1753 = .ok (.invokevirtual 221, 3) := by decide +kernel
theorem dL_law_1756 : decode cL_law 1756 = .ok (.if_icmp .eq 587, 3) := by decide +kernel
theorem dL_law_1761 : decode cL_law 1761 = .ok (.aload_n 1, 1) := by decide +kernel
theorem dL_law_1762 : decode cL_law 1762 = .ok (.aload_n 0, 1) := by decide +kernel
theorem dL_law_1763 : decode cL_law 1763 = .ok (.iload_n 3, 1) := by decide +kernel
theorem dL_law_1764 : decode cL_law 1764 = .ok (.iconst 1, 1) := by decide +kernel
theorem dL_law_1765 : decode cL_law 1765 = .ok (.iadd, 1) := by decide +kernel
theorem dL_law_1766 : decode cL_law 1766 = .ok (.iaload, 1) := by decide +kernel
theorem dL_law_1767 : decode cL_law 1767 = .ok (.aload_n 0, 1) := by decide +kernel
theorem dL_law_1768 : decode cL_law 1768 = .ok (.iload_n 3, 1) := by decide +kernel
theorem dL_law_1769 : decode cL_law 1769 = .ok (.iconst 2, 1) := by decide +kernel
theorem dL_law_1770 : decode cL_law 1770 = .ok (.iadd, 1) := by decide +kernel
theorem dL_law_1771 : decode cL_law 1771 = .ok (.iaload, 1) := by decide +kernel
theorem dL_law_1772 : decode cL_law 1772 = .ok (.invokevirtual 222, 3) := by decide +kernel
theorem dL_law_1775 : decode cL_law 1775 = .ok (.aload_n 2, 1) := by decide +kernel
theorem dL_law_1776 : decode cL_law 1776 = .ok (.aload_n 0, 1) := by decide +kernel
theorem dL_law_1777 : decode cL_law 1777 = .ok (.iload_n 3, 1) := by decide +kernel
theorem dL_law_1778 : decode cL_law 1778 = .ok (.iconst 1, 1) := by decide +kernel
theorem dL_law_1779 : decode cL_law 1779 = .ok (.iadd, 1) := by decide +kernel
theorem dL_law_1780 : decode cL_law 1780 = .ok (.iaload, 1) := by decide +kernel
theorem dL_law_1781 : decode cL_law 1781 = .ok (.aload_n 0, 1) := by decide +kernel
theorem dL_law_1782 : decode cL_law 1782 = .ok (.iload_n 3, 1) := by decide +kernel
theorem dL_law_1783 : decode cL_law 1783 = .ok (.iconst 2, 1) := by decide +kernel
theorem dL_law_1784 : decode cL_law 1784 = .ok (.iadd, 1) := by decide +kernel
theorem dL_law_1785 : decode cL_law 1785 = .ok (.iaload, 1) := by decide +kernel
theorem dL_law_1786 : decode cL_law 1786 = .ok (.invokevirtual 225, 3) := by decide +kernel
theorem dL_law_1789 : decode cL_law 1789 = .ok (.if_icmp .eq 554, 3) := by decide +kernel
theorem dL_law_1794 : decode cL_law 1794 = .ok (.aload_n 1, 1) := by decide +kernel
theorem dL_law_1795 : decode cL_law 1795 = .ok (.aload_n 0, 1) := by decide +kernel
theorem dL_law_1796 : decode cL_law 1796 = .ok (.iload_n 3, 1) := by decide +kernel
theorem dL_law_1797 : decode cL_law 1797 = .ok (.iconst 1, 1) := by decide +kernel
theorem dL_law_1798 : decode cL_law 1798 = .ok (.iadd, 1) := by decide +kernel
theorem dL_law_1799 : decode cL_law 1799 = .ok (.iaload, 1) := by decide +kernel
theorem dL_law_1800 : decode cL_law 1800 = .ok (.aload_n 0, 1) := by decide +kernel
theorem dL_law_1801 : decode cL_law 1801 = .ok (.iload_n 3, 1) := by decide +kernel
theorem dL_law_1802 : decode cL_law 1802 = .ok (.iconst 2, 1) := by decide +kernel
theorem dL_law_1803 : decode cL_law 1803 = .ok (.iadd, 1) := by decide +kernel
theorem dL_law_1804 : decode cL_law 1804 = .ok (.iaload, 1) := by decide +kernel
theorem dL_law_1805 : decode cL_law 1805 = .ok (.aload_n 0, 1) := by decide +kernel
theorem dL_law_1806 : decode cL_law 1806 = .ok (.iload_n 3, 1) := by decide +kernel
theorem dL_law_1807 : decode cL_law 1807 = .ok (.iconst 3, 1) := by decide +kernel
theorem dL_law_1808 : decode cL_law 1808 = .ok (.iadd, 1) := by decide +kernel
theorem dL_law_1809 : decode cL_law 1809 = .ok (.iaload, 1) := by decide +kernel
theorem dL_law_1810 : decode cL_law 1810 = .ok (.aload_n 0, 1) := by decide +kernel
theorem dL_law_1811 : decode cL_law 1811 = .ok (.iload_n 3, 1) := by decide +kernel
theorem dL_law_1812 : decode cL_law 1812 = .ok (.iconst 4, 1) := by decide +kernel
theorem dL_law_1813 : decode cL_law 1813 = .ok (.iadd, 1) := by decide +kernel
theorem dL_law_1814 : decode cL_law 1814 = .ok (.iaload, 1) := by decide +kernel
theorem dL_law_1815 : decode cL_law 1815 = .ok (.invokevirtual 226, 3) := by decide +kernel
theorem dL_law_1818 : decode cL_law 1818 = .ok (.aload_n 2, 1) := by decide +kernel
theorem dL_law_1819 : decode cL_law 1819 = .ok (.aload_n 0, 1) := by decide +kernel
theorem dL_law_1820 : decode cL_law 1820 = .ok (.iload_n 3, 1) := by decide +kernel
theorem dL_law_1821 : decode cL_law 1821 = .ok (.iconst 1, 1) := by decide +kernel
theorem dL_law_1822 : decode cL_law 1822 = .ok (.iadd, 1) := by decide +kernel
theorem dL_law_1823 : decode cL_law 1823 = .ok (.iaload, 1) := by decide +kernel
theorem dL_law_1824 : decode cL_law 1824 = .ok (.aload_n 0, 1) := by decide +kernel
theorem dL_law_1825 : decode cL_law 1825 = .ok (.iload_n 3, 1) := by decide +kernel
theorem dL_law_1826 : decode cL_law 1826 = .ok (.iconst 2, 1) := by decide +kernel
theorem dL_law_1827 : decode cL_law 1827 = .ok (.iadd, 1) := by decide +kernel
theorem dL_law_1828 : decode cL_law 1828 = .ok (.iaload, 1) := by decide +kernel
theorem dL_law_1829 : decode cL_law 1829 = .ok (.aload_n 0, 1) := by decide +kernel
theorem dL_law_1830 : decode cL_law 1830 = .ok (.iload_n 3, 1) := by decide +kernel
theorem dL_law_1831 : decode cL_law 1831 = .ok (.iconst 3, 1) := by decide +kernel
theorem dL_law_1832 : decode cL_law 1832 = .ok (.iadd, 1) := by decide +kernel
theorem dL_law_1833 : decode cL_law 1833 = .ok (.iaload, 1) := by decide +kernel
theorem dL_law_1834 : decode cL_law 1834 = .ok (.aload_n 0, 1) := by decide +kernel
theorem dL_law_1835 : decode cL_law 1835 = .ok (.iload_n 3, 1) := by decide +kernel
theorem dL_law_1836 : decode cL_law 1836 = .ok (.iconst 4, 1) := by decide +kernel
theorem dL_law_1837 : decode cL_law 1837 = .ok (.iadd, 1) := by decide +kernel
theorem dL_law_1838 : decode cL_law 1838 = .ok (.iaload, 1) := by decide +kernel
theorem dL_law_1839 : decode cL_law 1839 = .ok (.invokevirtual 230, 3) := by decide +kernel
theorem dL_law_1842 : decode cL_law 1842 = .ok (.if_icmp .eq 501, 3) := by decide +kernel
theorem dL_law_1847 : decode cL_law 1847 = .ok (.aload_n 1, 1) := by decide +kernel
theorem dL_law_1848 : decode cL_law 1848 = .ok (.aload_n 0, 1) := by decide +kernel
theorem dL_law_1849 : decode cL_law 1849 = .ok (.iload_n 3, 1) := by decide +kernel
theorem dL_law_1850 : decode cL_law 1850 = .ok (.iconst 1, 1) := by decide +kernel
theorem dL_law_1851 : decode cL_law 1851 = .ok (.iadd, 1) := by decide +kernel
theorem dL_law_1852 : decode cL_law 1852 = .ok (.iaload, 1) := by decide +kernel
theorem dL_law_1853 : decode cL_law 1853 = .ok (.aload_n 0, 1) := by decide +kernel
theorem dL_law_1854 : decode cL_law 1854 = .ok (.iload_n 3, 1) := by decide +kernel
theorem dL_law_1855 : decode cL_law 1855 = .ok (.iconst 2, 1) := by decide +kernel
theorem dL_law_1856 : decode cL_law 1856 = .ok (.iadd, 1) := by decide +kernel
theorem dL_law_1857 : decode cL_law 1857 = .ok (.iaload, 1) := by decide +kernel
theorem dL_law_1858 : decode cL_law 1858 = .ok (.invokevirtual 231, 3) := by decide +kernel
theorem dL_law_1861 : decode cL_law 1861 = .ok (.aload_n 2, 1) := by decide +kernel
theorem dL_law_1862 : decode cL_law 1862 = .ok (.aload_n 0, 1) := by decide +kernel
theorem dL_law_1863 : decode cL_law 1863 = .ok (.iload_n 3, 1) := by decide +kernel
theorem dL_law_1864 : decode cL_law 1864 = .ok (.iconst 1, 1) := by decide +kernel
theorem dL_law_1865 : decode cL_law 1865 = .ok (.iadd, 1) := by decide +kernel
theorem dL_law_1866 : decode cL_law 1866 = .ok (.iaload, 1) := by decide +kernel
theorem dL_law_1867 : decode cL_law 1867 = .ok (.aload_n 0, 1) := by decide +kernel
theorem dL_law_1868 : decode cL_law 1868 = .ok (.iload_n 3, 1) := by decide +kernel
theorem dL_law_1869 : decode cL_law 1869 = .ok (.iconst 2, 1) := by decide +kernel
theorem dL_law_1870 : decode cL_law 1870 = .ok (.iadd, 1) := by decide +kernel
theorem dL_law_1871 : decode cL_law 1871 = .ok (.iaload, 1) := by decide +kernel
theorem dL_law_1872 : decode cL_law 1872 = .ok (.invokevirtual 234, 3) := by decide +kernel
theorem dL_law_1875 : decode cL_law 1875 = .ok (.if_icmp .eq 468, 3) := by decide +kernel
theorem dL_law_1880 : decode cL_law 1880 = .ok (.aload_n 1, 1) := by decide +kernel
theorem dL_law_1881 : decode cL_law 1881 = .ok (.aload_n 0, 1) := by decide +kernel
theorem dL_law_1882 : decode cL_law 1882 = .ok (.iload_n 3, 1) := by decide +kernel
theorem dL_law_1883 : decode cL_law 1883 = .ok (.iconst 1, 1) := by decide +kernel
theorem dL_law_1884 : decode cL_law 1884 = .ok (.iadd, 1) := by decide +kernel
theorem dL_law_1885 : decode cL_law 1885 = .ok (.iaload, 1) := by decide +kernel
theorem dL_law_1886 : decode cL_law 1886 = .ok (.aload_n 0, 1) := by decide +kernel
theorem dL_law_1887 : decode cL_law 1887 = .ok (.iload_n 3, 1) := by decide +kernel
theorem dL_law_1888 : decode cL_law 1888 = .ok (.iconst 2, 1) := by decide +kernel
theorem dL_law_1889 : decode cL_law 1889 = .ok (.iadd, 1) := by decide +kernel
theorem dL_law_1890 : decode cL_law 1890 = .ok (.iaload, 1) := by decide +kernel
theorem dL_law_1891 : decode cL_law 1891 = .ok (.invokevirtual 235, 3) := by decide +kernel
theorem dL_law_1894 : decode cL_law 1894 = .ok (.aload_n 2, 1) := by decide +kernel
theorem dL_law_1895 : decode cL_law 1895 = .ok (.aload_n 0, 1) := by decide +kernel
theorem dL_law_1896 : decode cL_law 1896 = .ok (.iload_n 3, 1) := by decide +kernel
theorem dL_law_1897 : decode cL_law 1897 = .ok (.iconst 1, 1) := by decide +kernel
theorem dL_law_1898 : decode cL_law 1898 = .ok (.iadd, 1) := by decide +kernel
theorem dL_law_1899 : decode cL_law 1899 = .ok (.iaload, 1) := by decide +kernel
theorem dL_law_1900 : decode cL_law 1900 = .ok (.aload_n 0, 1) := by decide +kernel
theorem dL_law_1901 : decode cL_law 1901 = .ok (.iload_n 3, 1) := by decide +kernel
theorem dL_law_1902 : decode cL_law 1902 = .ok (.iconst 2, 1) := by decide +kernel
theorem dL_law_1903 : decode cL_law 1903 = .ok (.iadd, 1) := by decide +kernel
theorem dL_law_1904 : decode cL_law 1904 = .ok (.iaload, 1) := by decide +kernel
theorem dL_law_1905 : decode cL_law 1905 = .ok (.invokevirtual 238, 3) := by decide +kernel
theorem dL_law_1908 : decode cL_law 1908 = .ok (.if_icmp .eq 435, 3) := by decide +kernel
theorem dL_law_1913 : decode cL_law 1913 = .ok (.aload_n 1, 1) := by decide +kernel
theorem dL_law_1914 : decode cL_law 1914 = .ok (.aload_n 0, 1) := by decide +kernel
theorem dL_law_1915 : decode cL_law 1915 = .ok (.iload_n 3, 1) := by decide +kernel
theorem dL_law_1916 : decode cL_law 1916 = .ok (.iconst 1, 1) := by decide +kernel
theorem dL_law_1917 : decode cL_law 1917 = .ok (.iadd, 1) := by decide +kernel
theorem dL_law_1918 : decode cL_law 1918 = .ok (.iaload, 1) := by decide +kernel
theorem dL_law_1919 : decode cL_law 1919 = .ok (.aload_n 0, 1) := by decide +kernel
theorem dL_law_1920 : decode cL_law 1920 = .ok (.iload_n 3, 1) := by decide +kernel
theorem dL_law_1921 : decode cL_law 1921 = .ok (.iconst 2, 1) := by decide +kernel
theorem dL_law_1922 : decode cL_law 1922 = .ok (.iadd, 1) := by decide +kernel
theorem dL_law_1923 : decode cL_law 1923 = .ok (.iaload, 1) := by decide +kernel
theorem dL_law_1924 : decode cL_law 1924 = .ok (.aload_n 0, 1) := by decide +kernel
theorem dL_law_1925 : decode cL_law 1925 = .ok (.iload_n 3, 1) := by decide +kernel
theorem dL_law_1926 : decode cL_law 1926 = .ok (.iconst 3, 1) := by decide +kernel
theorem dL_law_1927 : decode cL_law 1927 = .ok (.iadd, 1) := by decide +kernel
theorem dL_law_1928 : decode cL_law 1928 = .ok (.iaload, 1) := by decide +kernel
theorem dL_law_1929 : decode cL_law 1929 = .ok (.invokevirtual 239, 3) := by decide +kernel
theorem dL_law_1932 : decode cL_law 1932 = .ok (.aload_n 2, 1) := by decide +kernel
theorem dL_law_1933 : decode cL_law 1933 = .ok (.aload_n 0, 1) := by decide +kernel
theorem dL_law_1934 : decode cL_law 1934 = .ok (.iload_n 3, 1) := by decide +kernel
theorem dL_law_1935 : decode cL_law 1935 = .ok (.iconst 1, 1) := by decide +kernel
theorem dL_law_1936 : decode cL_law 1936 = .ok (.iadd, 1) := by decide +kernel
theorem dL_law_1937 : decode cL_law 1937 = .ok (.iaload, 1) := by decide +kernel
theorem dL_law_1938 : decode cL_law 1938 = .ok (.aload_n 0, 1) := by decide +kernel
theorem dL_law_1939 : decode cL_law 1939 = .ok (.iload_n 3, 1) := by decide +kernel
theorem dL_law_1940 : decode cL_law 1940 = .ok (.iconst 2, 1) := by decide +kernel
theorem dL_law_1941 : decode cL_law 1941 = .ok (.iadd, 1) := by decide +kernel
theorem dL_law_1942 : decode cL_law 1942 = .ok (.iaload, 1) := by decide +kernel
theorem dL_law_1943 : decode cL_law 1943 = .ok (.aload_n 0, 1) := by decide +kernel
theorem dL_law_1944 : decode cL_law 1944 = .ok (.iload_n 3, 1) := by decide +kernel
theorem dL_law_1945 : decode cL_law 1945 = .ok (.iconst 3, 1) := by decide +kernel
theorem dL_law_1946 : decode cL_law 1946 = .ok (.iadd, 1) := by decide +kernel
theorem dL_law_1947 : decode cL_law 1947 = .ok (.iaload, 1) := by decide +kernel
theorem dL_law_1948 : decode cL_law 1948 = .ok (.invokevirtual 242, 3) := by decide +kernel
theorem dL_law_1951 : decode cL_law 1951 = .ok (.if_icmp .eq 392, 3) := by decide +kernel
theorem dL_law_1956 : decode cL_law 1956 = .ok (.aload_n 1, 1) := by decide +kernel
theorem dL_law_1957 : decode cL_law 1957 = .ok (.aload_n 0, 1) := by decide +kernel
theorem dL_law_1958 : decode cL_law 1958 = .ok (.iload_n 3, 1) := by decide +kernel
theorem dL_law_1959 : decode cL_law 1959 = .ok (.iconst 1, 1) := by decide +kernel
theorem dL_law_1960 : decode cL_law 1960 = .ok (.iadd, 1) := by decide +kernel
theorem dL_law_1961 : decode cL_law 1961 = .ok (.iaload, 1) := by decide +kernel
theorem dL_law_1962 : decode cL_law 1962 = .ok (.aload_n 0, 1) := by decide +kernel
theorem dL_law_1963 : decode cL_law 1963 = .ok (.iload_n 3, 1) := by decide +kernel
theorem dL_law_1964 : decode cL_law 1964 = .ok (.iconst 2, 1) := by decide +kernel
theorem dL_law_1965 : decode cL_law 1965 = .ok (.iadd, 1) := by decide +kernel
theorem dL_law_1966 : decode cL_law 1966 = .ok (.iaload, 1) := by decide +kernel
theorem dL_law_1967 : decode cL_law 1967 = .ok (.invokevirtual 243, 3) := by decide +kernel
theorem dL_law_1970 : decode cL_law 1970 = .ok (.aload_n 2, 1) := by decide +kernel
theorem dL_law_1971 : decode cL_law 1971 = .ok (.aload_n 0, 1) := by decide +kernel
theorem dL_law_1972 : decode cL_law 1972 = .ok (.iload_n 3, 1) := by decide +kernel
theorem dL_law_1973 : decode cL_law 1973 = .ok (.iconst 1, 1) := by decide +kernel
theorem dL_law_1974 : decode cL_law 1974 = .ok (.iadd, 1) := by decide +kernel
theorem dL_law_1975 : decode cL_law 1975 = .ok (.iaload, 1) := by decide +kernel
theorem dL_law_1976 : decode cL_law 1976 = .ok (.aload_n 0, 1) := by decide +kernel
theorem dL_law_1977 : decode cL_law 1977 = .ok (.iload_n 3, 1) := by decide +kernel
theorem dL_law_1978 : decode cL_law 1978 = .ok (.iconst 2, 1) := by decide +kernel
theorem dL_law_1979 : decode cL_law 1979 = .ok (.iadd, 1) := by decide +kernel
theorem dL_law_1980 : decode cL_law 1980 = .ok (.iaload, 1) := by decide +kernel
theorem dL_law_1981 : decode cL_law 1981 = .ok (.invokevirtual 246, 3) := by decide +kernel
theorem dL_law_1984 : decode cL_law 1984 = .ok (.if_icmp .eq 359, 3) := by decide +kernel
theorem dL_law_1989 : decode cL_law 1989 = .ok (.aload_n 1, 1) := by decide +kernel
theorem dL_law_1990 : decode cL_law 1990 = .ok (.aload_n 0, 1) := by decide +kernel
theorem dL_law_1991 : decode cL_law 1991 = .ok (.iload_n 3, 1) := by decide +kernel
theorem dL_law_1992 : decode cL_law 1992 = .ok (.iconst 1, 1) := by decide +kernel
theorem dL_law_1993 : decode cL_law 1993 = .ok (.iadd, 1) := by decide +kernel
theorem dL_law_1994 : decode cL_law 1994 = .ok (.iaload, 1) := by decide +kernel
theorem dL_law_1995 : decode cL_law 1995 = .ok (.aload_n 0, 1) := by decide +kernel
theorem dL_law_1996 : decode cL_law 1996 = .ok (.iload_n 3, 1) := by decide +kernel
theorem dL_law_1997 : decode cL_law 1997 = .ok (.iconst 2, 1) := by decide +kernel
theorem dL_law_1998 : decode cL_law 1998 = .ok (.iadd, 1) := by decide +kernel
theorem dL_law_1999 : decode cL_law 1999 = .ok (.iaload, 1) := by decide +kernel
theorem dL_law_2000 : decode cL_law 2000 = .ok (.aload_n 0, 1) := by decide +kernel
theorem dL_law_2001 : decode cL_law 2001 = .ok (.iload_n 3, 1) := by decide +kernel
theorem dL_law_2002 : decode cL_law 2002 = .ok (.iconst 3, 1) := by decide +kernel
theorem dL_law_2003 : decode cL_law 2003 = .ok (.iadd, 1) := by decide +kernel
theorem dL_law_2004 : decode cL_law 2004 = .ok (.iaload, 1) := by decide +kernel
theorem dL_law_2005 : decode cL_law 2005 = .ok (.aload_n 0, 1) := by decide +kernel
theorem dL_law_2006 : decode cL_law 2006 = .ok (.iload_n 3, 1) := by decide +kernel
theorem dL_law_2007 : decode cL_law 2007 = .ok (.iconst 4, 1) := by decide +kernel
theorem dL_law_2008 : decode cL_law 2008 = .ok (.iadd, 1) := by decide +kernel
theorem dL_law_2009 : decode cL_law 2009 = .ok (.iaload, 1) := by decide +kernel
theorem dL_law_2010 : decode cL_law 2010 = .ok (.invokevirtual 247, 3) := by decide +kernel
theorem dL_law_2013 : decode cL_law 2013 = .ok (.aload_n 2, 1) := by decide +kernel
theorem dL_law_2014 : decode cL_law 2014 = .ok (.aload_n 0, 1) := by decide +kernel
theorem dL_law_2015 : decode cL_law 2015 = .ok (.iload_n 3, 1) := by decide +kernel
theorem dL_law_2016 : decode cL_law 2016 = .ok (.iconst 1, 1) := by decide +kernel
theorem dL_law_2017 : decode cL_law 2017 = .ok (.iadd, 1) := by decide +kernel
theorem dL_law_2018 : decode cL_law 2018 = .ok (.iaload, 1) := by decide +kernel
theorem dL_law_2019 : decode cL_law 2019 = .ok (.aload_n 0, 1) := by decide +kernel
theorem dL_law_2020 : decode cL_law 2020 = .ok (.iload_n 3, 1) := by decide +kernel
theorem dL_law_2021 : decode cL_law 2021 = .ok (.iconst 2, 1) := by decide +kernel
theorem dL_law_2022 : decode cL_law 2022 = .ok (.iadd, 1) := by decide +kernel
theorem dL_law_2023 : decode cL_law 2023 = .ok (.iaload, 1) := by decide +kernel
theorem dL_law_2024 : decode cL_law 2024 = .ok (.aload_n 0, 1) := by decide +kernel
theorem dL_law_2025 : decode cL_law 2025 = .ok (.iload_n 3, 1) := by decide +kernel
theorem dL_law_2026 : decode cL_law 2026 = .ok (.iconst 3, 1) := by decide +kernel
theorem dL_law_2027 : decode cL_law 2027 = .ok (.iadd, 1) := by decide +kernel
theorem dL_law_2028 : decode cL_law 2028 = .ok (.iaload, 1) := by decide +kernel
theorem dL_law_2029 : decode cL_law 2029 = .ok (.aload_n 0, 1) := by decide +kernel
theorem dL_law_2030 : decode cL_law 2030 = .ok (.iload_n 3, 1) := by decide +kernel
theorem dL_law_2031 : decode cL_law 2031 = .ok (.iconst 4, 1) := by decide +kernel
theorem dL_law_2032 : decode cL_law 2032 = .ok (.iadd, 1) := by decide +kernel
theorem dL_law_2033 : decode cL_law 2033 = .ok (.iaload, 1) := by decide +kernel
theorem dL_law_2034 : decode cL_law 2034 = .ok (.invokevirtual 250, 3) := by decide +kernel
theorem dL_law_2037 : decode cL_law 2037 = .ok (.if_icmp .eq 306, 3) := by decide +kernel
theorem dL_law_2042 : decode cL_law 2042 = .ok (.aload_n 1, 1) := by decide +kernel
theorem dL_law_2043 : decode cL_law 2043 = .ok (.aload_n 0, 1) := by decide +kernel
theorem dL_law_2044 : decode cL_law 2044 = .ok (.iload_n 3, 1) := by decide +kernel
theorem dL_law_2045 : decode cL_law 2045 = .ok (.iconst 1, 1) := by decide +kernel
theorem dL_law_2046 : decode cL_law 2046 = .ok (.iadd, 1) := by decide +kernel
theorem dL_law_2047 : decode cL_law 2047 = .ok (.iaload, 1) := by decide +kernel
theorem dL_law_2048 : decode cL_law 2048 = .ok (.aload_n 0, 1) := by decide +kernel
theorem dL_law_2049 : decode cL_law 2049 = .ok (.iload_n 3, 1) := by decide +kernel
theorem dL_law_2050 : decode cL_law 2050 = .ok (.iconst 2, 1) := by decide +kernel
theorem dL_law_2051 : decode cL_law 2051 = .ok (.iadd, 1) := by decide +kernel
theorem dL_law_2052 : decode cL_law 2052 = .ok (.iaload, 1) := by decide +kernel
theorem dL_law_2053 : decode cL_law 2053 = .ok (.aload_n 0, 1) := by decide +kernel
theorem dL_law_2054 : decode cL_law 2054 = .ok (.iload_n 3, 1) := by decide +kernel
theorem dL_law_2055 : decode cL_law 2055 = .ok (.iconst 3, 1) := by decide +kernel
theorem dL_law_2056 : decode cL_law 2056 = .ok (.iadd, 1) := by decide +kernel
theorem dL_law_2057 : decode cL_law 2057 = .ok (.iaload, 1) := by decide +kernel
theorem dL_law_2058 : decode cL_law 2058 = .ok (.aload_n 0, 1) := by decide +kernel
theorem dL_law_2059 : decode cL_law 2059 = .ok (.iload_n 3, 1) := by decide +kernel
theorem dL_law_2060 : decode cL_law 2060 = .ok (.iconst 4, 1) := by decide +kernel
theorem dL_law_2061 : decode cL_law 2061 = .ok (.iadd, 1) := by decide +kernel
theorem dL_law_2062 : decode cL_law 2062 = .ok (.iaload, 1) := by decide +kernel
theorem dL_law_2063 : decode cL_law 2063 = .ok (.invokevirtual 251, 3) := by decide +kernel
theorem dL_law_2066 : decode cL_law 2066 = .ok (.aload_n 2, 1) := by decide +kernel
theorem dL_law_2067 : decode cL_law 2067 = .ok (.aload_n 0, 1) := by decide +kernel
theorem dL_law_2068 : decode cL_law 2068 = .ok (.iload_n 3, 1) := by decide +kernel
theorem dL_law_2069 : decode cL_law 2069 = .ok (.iconst 1, 1) := by decide +kernel
theorem dL_law_2070 : decode cL_law 2070 = .ok (.iadd, 1) := by decide +kernel
theorem dL_law_2071 : decode cL_law 2071 = .ok (.iaload, 1) := by decide +kernel
theorem dL_law_2072 : decode cL_law 2072 = .ok (.aload_n 0, 1) := by decide +kernel
theorem dL_law_2073 : decode cL_law 2073 = .ok (.iload_n 3, 1) := by decide +kernel
theorem dL_law_2074 : decode cL_law 2074 = .ok (.iconst 2, 1) := by decide +kernel
theorem dL_law_2075 : decode cL_law 2075 = .ok (.iadd, 1) := by decide +kernel
theorem dL_law_2076 : decode cL_law 2076 = .ok (.iaload, 1) := by decide +kernel
theorem dL_law_2077 : decode cL_law 2077 = .ok (.aload_n 0, 1) := by decide +kernel
theorem dL_law_2078 : decode cL_law 2078 = .ok (.iload_n 3, 1) := by decide +kernel
theorem dL_law_2079 : decode cL_law 2079 = .ok (.iconst 3, 1) := by decide +kernel
theorem dL_law_2080 : decode cL_law 2080 = .ok (.iadd, 1) := by decide +kernel
theorem dL_law_2081 : decode cL_law 2081 = .ok (.iaload, 1) := by decide +kernel
theorem dL_law_2082 : decode cL_law 2082 = .ok (.aload_n 0, 1) := by decide +kernel
theorem dL_law_2083 : decode cL_law 2083 = .ok (.iload_n 3, 1) := by decide +kernel
theorem dL_law_2084 : decode cL_law 2084 = .ok (.iconst 4, 1) := by decide +kernel
theorem dL_law_2085 : decode cL_law 2085 = .ok (.iadd, 1) := by decide +kernel
theorem dL_law_2086 : decode cL_law 2086 = .ok (.iaload, 1) := by decide +kernel
theorem dL_law_2087 : decode cL_law 2087 = .ok (.invokevirtual 254, 3) := by decide +kernel
theorem dL_law_2090 : decode cL_law 2090 = .ok (.if_icmp .eq 253, 3) := by decide +kernel
theorem dL_law_2095 : decode cL_law 2095 = .ok (.aload_n 1, 1) := by decide +kernel
theorem dL_law_2096 : decode cL_law 2096 = .ok (.aload_n 0, 1) := by decide +kernel
theorem dL_law_2097 : decode cL_law 2097 = .ok (.iload_n 3, 1) := by decide +kernel
theorem dL_law_2098 : decode cL_law 2098 = .ok (.iconst 1, 1) := by decide +kernel
theorem dL_law_2099 : decode cL_law 2099 = .ok (.iadd, 1) := by decide +kernel
theorem dL_law_2100 : decode cL_law 2100 = .ok (.iaload, 1) := by decide +kernel
theorem dL_law_2101 : decode cL_law 2101 = .ok (.invokevirtual 255, 3) := by decide +kernel
theorem dL_law_2104 : decode cL_law 2104 = .ok (.aload_n 2, 1) := by decide +kernel
theorem dL_law_2105 : decode cL_law 2105 = .ok (.aload_n 0, 1) := by decide +kernel
theorem dL_law_2106 : decode cL_law 2106 = .ok (.iload_n 3, 1) := by decide +kernel
theorem dL_law_2107 : decode cL_law 2107 = .ok (.iconst 1, 1) := by decide +kernel
theorem dL_law_2108 : decode cL_law 2108 = .ok (.iadd, 1) := by decide +kernel
theorem dL_law_2109 : decode cL_law 2109 = .ok (.iaload, 1) := by decide +kernel
theorem dL_law_2110 : decode cL_law 2110 = .ok (.invokevirtual 258, 3) := by decide +kernel
theorem dL_law_2113 : decode cL_law 2113 = .ok (.if_icmp .eq 230, 3) := by decide +kernel
theorem dL_law_2118 : decode cL_law 2118 = .ok (.aload_n 1, 1) := by decide +kernel
theorem dL_law_2119 : decode cL_law 2119 = .ok (.aload_n 0, 1) := by decide +kernel
theorem dL_law_2120 : decode cL_law 2120 = .ok (.iload_n 3, 1) := by decide +kernel
theorem dL_law_2121 : decode cL_law 2121 = .ok (.iconst 1, 1) := by decide +kernel
theorem dL_law_2122 : decode cL_law 2122 = .ok (.iadd, 1) := by decide +kernel
theorem dL_law_2123 : decode cL_law 2123 = .ok (.iaload, 1) := by decide +kernel
theorem dL_law_2124 : decode cL_law 2124 = .ok (.invokevirtual 259, 3) := by decide +kernel
theorem dL_law_2127 : decode cL_law 2127 = .ok (.aload_n 2, 1) := by decide +kernel
theorem dL_law_2128 : decode cL_law 2128 = .ok (.aload_n 0, 1) := by decide +kernel
theorem dL_law_2129 : decode cL_law 2129 = .ok (.iload_n 3, 1) := by decide +kernel
theorem dL_law_2130 : decode cL_law 2130 = .ok (.iconst 1, 1) := by decide +kernel
theorem dL_law_2131 : decode cL_law 2131 = .ok (.iadd, 1) := by decide +kernel
theorem dL_law_2132 : decode cL_law 2132 = .ok (.iaload, 1) := by decide +kernel
theorem dL_law_2133 : decode cL_law 2133 = .ok (.invokevirtual 262, 3) := by decide +kernel
theorem dL_law_2136 : decode cL_law 2136 = .ok (.if_icmp .eq 207, 3) := by decide +kernel
theorem dL_law_2141 : decode cL_law 2141 = .ok (.aload_n 1, 1) := by decide +kernel
theorem dL_law_2142 : decode cL_law 2142 = .ok (.aload_n 0, 1) := by decide +kernel
theorem dL_law_2143 : decode cL_law 2143 = .ok (.iload_n 3, 1) := by decide +kernel
theorem dL_law_2144 : decode cL_law 2144 = .ok (.iconst 1, 1) := by decide +kernel
theorem dL_law_2145 : decode cL_law 2145 = .ok (.iadd, 1) := by decide +kernel
theorem dL_law_2146 : decode cL_law 2146 = .ok (.iaload, 1) := by decide +kernel
theorem dL_law_2147 : decode cL_law 2147 = .ok (.invokevirtual 263, 3) := by decide +kernel
theorem dL_law_2150 : decode cL_law 2150 = .ok (.aload_n 2, 1) := by decide +kernel
theorem dL_law_2151 : decode cL_law 2151 = .ok (.aload_n 0, 1) := by decide +kernel
theorem dL_law_2152 : decode cL_law 2152 = .ok (.iload_n 3, 1) := by decide +kernel
theorem dL_law_2153 : decode cL_law 2153 = .ok (.iconst 1, 1) := by decide +kernel
theorem dL_law_2154 : decode cL_law 2154 = .ok (.iadd, 1) := by decide +kernel
theorem dL_law_2155 : decode cL_law 2155 = .ok (.iaload, 1) := by decide +kernel
theorem dL_law_2156 : decode cL_law 2156 = .ok (.invokevirtual 266, 3) := by decide +kernel
theorem dL_law_2159 : decode cL_law 2159 = .ok (.if_icmp .eq 184, 3) := by decide +kernel
theorem dL_law_2164 : decode cL_law 2164 = .ok (.aload_n 1, 1) := by decide +kernel
theorem dL_law_2165 : decode cL_law 2165 = .ok (.aload_n 0, 1) := by decide +kernel
theorem dL_law_2166 : decode cL_law 2166 = .ok (.iload_n 3, 1) := by decide +kernel
theorem dL_law_2167 : decode cL_law 2167 = .ok (.iconst 1, 1) := by decide +kernel
theorem dL_law_2168 : decode cL_law 2168 = .ok (.iadd, 1) := by decide +kernel
theorem dL_law_2169 : decode cL_law 2169 = .ok (.iaload, 1) := by decide +kernel
theorem dL_law_2170 : decode cL_law 2170 = .ok (.aload_n 0, 1) := by decide +kernel
theorem dL_law_2171 : decode cL_law 2171 = .ok (.iload_n 3, 1) := by decide +kernel
theorem dL_law_2172 : decode cL_law 2172 = .ok (.iconst 2, 1) := by decide +kernel
theorem dL_law_2173 : decode cL_law 2173 = .ok (.iadd, 1) := by decide +kernel
theorem dL_law_2174 : decode cL_law 2174 = .ok (.iaload, 1) := by decide +kernel
theorem dL_law_2175 : decode cL_law 2175 = .ok (.aload_n 0, 1) := by decide +kernel
theorem dL_law_2176 : decode cL_law 2176 = .ok (.iload_n 3, 1) := by decide +kernel
theorem dL_law_2177 : decode cL_law 2177 = .ok (.iconst 3, 1) := by decide +kernel
theorem dL_law_2178 : decode cL_law 2178 = .ok (.iadd, 1) := by decide +kernel
theorem dL_law_2179 : decode cL_law 2179 = .ok (.iaload, 1) := by decide +kernel
theorem dL_law_2180 : decode cL_law 2180 = .ok (.invokevirtual 267, 3) := by decide +kernel
theorem dL_law_2183 : decode cL_law 2183 = .ok (.aload_n 2, 1) := by decide +kernel
