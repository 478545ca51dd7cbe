theorem dL_law_1264 : decode cL_law 1264 = .ok (.aload_n 1, 1) := by decide +kernel
theorem dL_law_1265 : decode cL_law 1265 = .ok (.aload_n 0, 1) := by decide +kernel
theorem dL_law_1266 : decode cL_law 1266 = .ok (.iload_n 3, 1) := by decide +kernel
theorem dL_law_1267 : decode cL_law 1267 = .ok (.iconst 1, 1) := by decide +kernel
theorem dL_law_1268 : decode cL_law 1268 = .ok (.iadd, 1) := by decide +kernel
theorem dL_law_1269 : decode cL_law 1269 = .ok (.iaload, 1) := by decide +kernel
theorem dL_law_1270 : decode cL_law 1270 = .ok (.invokevirtual 185, 3) := by decide +kernel
theorem dL_law_1273 : decode cL_law 1273 = .ok (.pop, 1) := by decide +kernel
theorem dL_law_1274 : decode cL_law 1274 = .ok (.aload_n 2, 1) := by decide +kernel
theorem dL_law_1275 : decode cL_law 1275 = .ok (.aload_n 0, 1) := by decide +kernel
theorem dL_law_1276 : decode cL_law 1276 = .ok (.iload_n 3, 1) := by decide +kernel
theorem dL_law_1277 : decode cL_law 1277 = .ok (.iconst 1, 1) := by decide +kernel
theorem dL_law_1278 : decode cL_law 1278 = .ok (.iadd, 1) := by decide +kernel
theorem dL_law_1279 : decode cL_law 1279 = .ok (.iaload, 1) := by decide +kernel
theorem dL_law_1280 : decode cL_law 1280 = .ok (.invokevirtual 188, 3) := by decide +kernel
theorem dL_law_1283 : decode cL_law 1283 = .ok (.pop, 1) := by decide +kernel
theorem dL_law_1284 : decode cL_law 1284 = .ok (.goto 834, 3) := by decide +kernel
theorem dL_law_1287 : decode cL_law 1287 = .ok (.aload_n 1, 1) := by decide +kernel
theorem dL_law_1288 : decode cL_law 1288 = .ok (.aload_n 0, 1) := by decide +kernel
theorem dL_law_1289 : decode cL_law 1289 = .ok (.iload_n 3, 1) := by decide +kernel
theorem dL_law_1290 : decode cL_law 1290 = .ok (.iconst 1, 1) := by decide +kernel
theorem dL_law_1291 : decode cL_law 1291 = .ok (.iadd, 1) := by decide +kernel
theorem dL_law_1292 : decode cL_law 1292 = .ok (.iaload, 1) := by decide +kernel
theorem dL_law_1293 : decode cL_law 1293 = .ok (.invokevirtual 189, 3) := by decide +kernel
theorem dL_law_1296 : decode cL_law 1296 = .ok (.pop, 1) := by decide +kernel
theorem dL_law_1297 : decode cL_law 1297 = .ok (.aload_n 2, 1) := by decide +kernel
theorem dL_law_1298 : decode cL_law 1298 = .ok (.aload_n 0, 1) := by decide +kernel
theorem dL_law_1299 : decode cL_law 1299 = .ok (.iload_n 3, 1) := by decide +kernel
theorem dL_law_1300 : decode cL_law 1300 = .ok (.iconst 1, 1) := by decide +kernel
theorem dL_law_1301 : decode cL_law 1301 = .ok (.iadd, 1) := by decide +kernel
theorem dL_law_1302 : decode cL_law 1302 = .ok (.iaload, 1) := by decide +kernel
theorem dL_law_1303 : decode cL_law 1303 = .ok (.invokevirtual 192, 3) := by decide +kernel
theorem dL_law_1306 : decode cL_law 1306 = .ok (.pop, 1) := by decide +kernel
theorem dL_law_1307 : decode cL_law 1307 = .ok (.goto 811, 3) := by decide +kernel
theorem dL_law_1310 : decode cL_law 1310 = .ok (.aload_n 1, 1) := by decide +kernel
theorem dL_law_1311 : decode cL_law 1311 = .ok (.aload_n 0, 1) := by decide +kernel
theorem dL_law_1312 : decode cL_law 1312 = .ok (.iload_n 3, 1) := by decide +kernel
theorem dL_law_1313 : decode cL_law 1313 = .ok (.iconst 1, 1) := by decide +kernel
theorem dL_law_1314 : decode cL_law 1314 = .ok (.iadd, 1) := by decide +kernel
theorem dL_law_1315 : decode cL_law 1315 = .ok (.iaload, 1) := by decide +kernel
theorem dL_law_1316 : decode cL_law 1316 = .ok (.invokevirtual 193, 3) := by decide +kernel
theorem dL_law_1319 : decode cL_law 1319 = .ok (.pop, 1) := by decide +kernel
theorem dL_law_1320 : decode cL_law 1320 = .ok (.aload_n 2, 1) := by decide +kernel
theorem dL_law_1321 : decode cL_law 1321 = .ok (.aload_n 0, 1) := by decide +kernel
theorem dL_law_1322 : decode cL_law 1322 = .ok (.iload_n 3, 1) := by decide +kernel
theorem dL_law_1323 : decode cL_law 1323 = .ok (.iconst 1, 1) := by decide +kernel
theorem dL_law_1324 : decode cL_law 1324 = .ok (.iadd, 1) := by decide +kernel
theorem dL_law_1325 : decode cL_law 1325 = .ok (.iaload, 1) := by decide +kernel
theorem dL_law_1326 : decode cL_law 1326 = .ok (.invokevirtual 196, 3) := by decide +kernel
theorem dL_law_1329 : decode cL_law 1329 = .ok (.pop, 1) := by decide +kernel
theorem dL_law_1330 : decode cL_law 1330 = .ok (.goto 788, 3) := by decide +kernel
theorem dL_law_1333 : decode cL_law 1333 = .ok (.aload_n 1, 1) := by decide +kernel
theorem dL_law_1334 : decode cL_law 1334 = .ok (.aload_n 0, 1) := by decide +kernel
theorem dL_law_1335 : decode cL_law 1335 = .ok (.iload_n 3, 1) := by decide +kernel
theorem dL_law_1336 : decode cL_law 1336 = .ok (.iconst 1, 1) := by decide +kernel
theorem dL_law_1337 : decode cL_law 1337 = .ok (.iadd, 1) := by decide +kernel
theorem dL_law_1338 : decode cL_law 1338 = .ok (.iaload, 1) := by decide +kernel
theorem dL_law_1339 : decode cL_law 1339 = .ok (.aload_n 0, 1) := by decide +kernel
theorem dL_law_1340 : decode cL_law 1340 = .ok (.iload_n 3, 1) := by decide +kernel
theorem dL_law_1341 : decode cL_law 1341 = .ok (.iconst 2, 1) := by decide +kernel
theorem dL_law_1342 : decode cL_law 1342 = .ok (.iadd, 1) := by decide +kernel
theorem dL_law_1343 : decode cL_law 1343 = .ok (.iaload, 1) := by decide +kernel
theorem dL_law_1344 : decode cL_law 1344 = .ok (.aload_n 0, 1) := by decide +kernel
theorem dL_law_1345 : decode cL_law 1345 = .ok (.iload_n 3, 1) := by decide +kernel
theorem dL_law_1346 : decode cL_law 1346 = .ok (.iconst 3, 1) := by decide +kernel
theorem dL_law_1347 : decode cL_law 1347 = .ok (.iadd, 1) := by decide +kernel
theorem dL_law_1348 : decode cL_law 1348 = .ok (.iaload, 1) := by decide +kernel
theorem dL_law_1349 : decode cL_law 1349 = .ok (.invokevirtual 197, 3) := by decide +kernel
theorem dL_law_1352 : decode cL_law 1352 = .ok (.pop, 1) := by decide +kernel
theorem dL_law_1353 : decode cL_law 1353 = .ok (.aload_n 2, 1) := by decide +kernel
theorem dL_law_1354 : decode cL_law 1354 = .ok (.aload_n 0, 1) := by decide +kernel
theorem dL_law_1355 : decode cL_law 1355 = .ok (.iload_n 3, 1) := by decide +kernel
theorem dL_law_1356 : decode cL_law 1356 = .ok (.iconst 1, 1) := by decide +kernel
theorem dL_law_1357 : decode cL_law 1357 = .ok (.iadd, 1) := by decide +kernel
theorem dL_law_1358 : decode cL_law 1358 = .ok (.iaload, 1) := by decide +kernel
theorem dL_law_1359 : decode cL_law 1359 = .ok (.aload_n 0, 1) := by decide +kernel
theorem dL_law_1360 : decode cL_law 1360 = .ok (.iload_n 3, 1) := by decide +kernel
theorem dL_law_1361 : decode cL_law 1361 = .ok (.iconst 2, 1) := by decide +kernel
theorem dL_law_1362 : decode cL_law 1362 = .ok (.iadd, 1) := by decide +kernel
theorem dL_law_1363 : decode cL_law 1363 = .ok (.iaload, 1) := by decide +kernel
theorem dL_law_1364 : decode cL_law 1364 = .ok (.aload_n 0, 1) := by decide +kernel
theorem dL_law_1365 : decode cL_law 1365 = .ok (.iload_n 3, 1) := by decide +kernel
theorem dL_law_1366 : decode cL_law 1366 = .ok (.iconst 3, 1) := by decide +kernel
theorem dL_law_1367 : decode cL_law 1367 = .ok (.iadd, 1) := by decide +kernel
theorem dL_law_1368 : decode cL_law 1368 = .ok (.iaload, 1) := by decide +kernel
theorem dL_law_1369 : decode cL_law 1369 = .ok (.invokevirtual 201, 3) := by decide +kernel
theorem dL_law_1372 : decode cL_law 1372 = .ok (.pop, 1) := by decide +kernel
theorem dL_law_1373 : decode cL_law 1373 = .ok (.goto 745, 3) := by decide +kernel
theorem dL_law_1376 : decode cL_law 1376 = .ok (.aload_n 1, 1) := by decide +kernel
theorem dL_law_1377 : decode cL_law 1377 = .ok (.invokevirtual 202, 3) := by decide +kernel
theorem dL_law_1380 : decode cL_law 1380 = .ok (.pop, 1) := by decide +kernel
theorem dL_law_1381 : decode cL_law 1381 = .ok (.aload_n 2, 1) := by decide +kernel
theorem dL_law_1382 : decode cL_law 1382 = .ok (.invokevirtual 205, 3) := by decide +kernel
theorem dL_law_1385 : decode cL_law 1385 = .ok (.pop, 1) := by decide +kernel
theorem dL_law_1386 : decode cL_law 1386 = .ok (.goto 732, 3) := by decide +kernel
theorem dL_law_1389 : decode cL_law 1389 = .ok (.aload_n 1, 1) := by decide +kernel
theorem dL_law_1390 : decode cL_law 1390 = .ok (.aload_n 0, 1) := by decide +kernel
theorem dL_law_1391 : decode cL_law 1391 = .ok (.iload_n 3, 1) := by decide +kernel
theorem dL_law_1392 : decode cL_law 1392 = .ok (.iconst 1, 1) := by decide +kernel
theorem dL_law_1393 : decode cL_law 1393 = .ok (.iadd, 1) := by decide +kernel
theorem dL_law_1394 : decode cL_law 1394 = .ok (.iaload, 1) := by decide +kernel
theorem dL_law_1395 : decode cL_law 1395 = .ok (.invokevirtual 206, 3) := by decide +kernel
theorem dL_law_1398 : decode cL_law 1398 = .ok (.pop, 1) := by decide +kernel
theorem dL_law_1399 : decode cL_law 1399 = .ok (.aload_n 2, 1) := by decide +kernel
theorem dL_law_1400 : decode cL_law 1400 = .ok (.aload_n 0, 1) := by decide +kernel
theorem dL_law_1401 : decode cL_law 1401 = .ok (.iload_n 3, 1) := by decide +kernel
theorem dL_law_1402 : decode cL_law 1402 = .ok (.iconst 1, 1) := by decide +kernel
theorem dL_law_1403 : decode cL_law 1403 = .ok (.iadd, 1) := by decide +kernel
theorem dL_law_1404 : decode cL_law 1404 = .ok (.iaload, 1) := by decide +kernel
theorem dL_law_1405 : decode cL_law 1405 = .ok (.invokevirtual 209, 3) := by decide +kernel
theorem dL_law_1408 : decode cL_law 1408 = .ok (.pop, 1) := by decide +kernel
theorem dL_law_1409 : decode cL_law 1409 = .ok (.goto 709, 3) := by decide +kernel
theorem dL_law_1412 : decode cL_law 1412 = .ok (.aload_n 1, 1) := by decide +kernel
theorem dL_law_1413 : decode cL_law 1413 = .ok (.invokevirtual 210, 3) := by decide +kernel
theorem dL_law_1416 : decode cL_law 1416 = .ok (.pop, 1) := by decide +kernel
theorem dL_law_1417 : decode cL_law 1417 = .ok (.aload_n 2, 1) := by decide +kernel
theorem dL_law_1418 : decode cL_law 1418 = .ok (.invokevirtual 213, 3) := by decide +kernel
theorem dL_law_1421 : decode cL_law 1421 = .ok (.pop, 1) := by decide +kernel
theorem dL_law_1422 : decode cL_law 1422 = .ok (.goto 696, 3) := by decide +kernel
theorem dL_law_1425 : decode cL_law 1425 = .ok (.aload_n 1, 1) := by decide +kernel
theorem dL_law_1426 : decode cL_law 1426 = .ok (.invokevirtual 214, 3) := by decide +kernel
theorem dL_law_1429 : decode cL_law 1429 = .ok (.pop, 1) := by decide +kernel
theorem dL_law_1430 : decode cL_law 1430 = .ok (.aload_n 2, 1) := by decide +kernel
theorem dL_law_1431 : decode cL_law 1431 = .ok (.invokevirtual 217, 3) := by decide +kernel
theorem dL_law_1434 : decode cL_law 1434 = .ok (.pop, 1) := by decide +kernel
theorem dL_law_1435 : decode cL_law 1435 = .ok (.goto 683, 3) := by decide +kernel
theorem dL_law_1438 : decode cL_law 1438 = .ok (.aload_n 1, 1) := by decide +kernel
theorem dL_law_1439 : decode cL_law 1439 = .ok (.aload_n 0, 1) := by decide +kernel
theorem dL_law_1440 : decode cL_law 1440 = .ok (.iload_n 3, 1) := by decide +kernel
theorem dL_law_1441 : decode cL_law 1441 = .ok (.iconst 1, 1) := by decide +kernel
theorem dL_law_1442 : decode cL_law 1442 = .ok (.iadd, 1) := by decide +kernel
theorem dL_law_1443 : decode cL_law 1443 = .ok (.iaload, 1) := by decide +kernel
theorem dL_law_1444 : decode cL_law 1444 = .ok (.invokevirtual 218, 3) := by decide +kernel
theorem dL_law_1447 : decode cL_law 1447 = .ok (.pop, 1) := by decide +kernel
theorem dL_law_1448 : decode cL_law 1448 = .ok (.aload_n 2, 1) := by decide +kernel
theorem dL_law_1449 : decode cL_law 1449 = .ok (.aload_n 0, 1) := by decide +kernel
theorem dL_law_1450 : decode cL_law 1450 = .ok (.iload_n 3, 1) := by decide +kernel
theorem dL_law_1451 : decode cL_law 1451 = .ok (.iconst 1, 1) := by decide +kernel
theorem dL_law_1452 : decode cL_law 1452 = .ok (.iadd, 1) := by decide +kernel
theorem dL_law_1453 : decode cL_law 1453 = .ok (.iaload, 1) := by decide +kernel
theorem dL_law_1454 : decode cL_law 1454 = .ok (.invokevirtual 221, 3) := by decide +kernel
theorem dL_law_1457 : decode cL_law 1457 = .ok (.pop, 1) := by decide +kernel
theorem dL_law_1458 : decode cL_law 1458 = .ok (.goto 660, 3) := by decide +kernel
theorem dL_law_1461 : decode cL_law 1461 = .ok (.aload_n 1, 1) := by decide +kernel
theorem dL_law_1462 : decode cL_law 1462 = .ok (.aload_n 0, 1) := by decide +kernel
theorem dL_law_1463 : decode cL_law 1463 = .ok (.iload_n 3, 1) := by decide +kernel
theorem dL_law_1464 : decode cL_law 1464 = .ok (.iconst 1, 1) := by decide +kernel
theorem dL_law_1465 : decode cL_law 1465 = .ok (.iadd, 1) := by decide +kernel
theorem dL_law_1466 : decode cL_law 1466 = .ok (.iaload, 1) := by decide +kernel
theorem dL_law_1467 : decode cL_law 1467 = .ok (.aload_n 0, 1) := by decide +kernel
theorem dL_law_1468 : decode cL_law 1468 = .ok (.iload_n 3, 1) := by decide +kernel
theorem dL_law_1469 : decode cL_law 1469 = .ok (.iconst 2, 1) := by decide +kernel
theorem dL_law_1470 : decode cL_law 1470 = .ok (.iadd, 1) := by decide +kernel
theorem dL_law_1471 : decode cL_law 1471 = .ok (.iaload, 1) := by decide +kernel
theorem dL_law_1472 : decode cL_law 1472 = .ok (.invokevirtual 222, 3) := by decide +kernel
theorem dL_law_1475 : decode cL_law 1475 = .ok (.pop, 1) := by decide +kernel
theorem dL_law_1476 : decode cL_law 1476 = .ok (.aload_n 2, 1) := by decide +kernel
theorem dL_law_1477 : decode cL_law 1477 = .ok (.aload_n 0, 1) := by decide +kernel
theorem dL_law_1478 : decode cL_law 1478 = .ok (.iload_n 3, 1) := by decide +kernel
theorem dL_law_1479 : decode cL_law 1479 = .ok (.iconst 1, 1) := by decide +kernel
theorem dL_law_1480 : decode cL_law 1480 = .ok (.iadd, 1) := by decide +kernel
theorem dL_law_1481 : decode cL_law 1481 = .ok (.iaload, 1) := by decide +kernel
theorem dL_law_1482 : decode cL_law 1482 = .ok (.aload_n 0, 1) := by decide +kernel
theorem dL_law_1483 : decode cL_law 1483 = .ok (.iload_n 3, 1) := by decide +kernel
theorem dL_law_1484 : decode cL_law 1484 = .ok (.iconst 2, 1) := by decide +kernel
theorem dL_law_1485 : decode cL_law 1485 = .ok (.iadd, 1) := by decide +kernel
theorem dL_law_1486 : decode cL_law 1486 = .ok (.iaload, 1) := by decide +kernel
theorem dL_law_1487 : decode cL_law 1487 = .ok (.invokevirtual 225, 3) := by decide +kernel
theorem dL_law_1490 : decode cL_law 1490 = .ok (.pop, 1) := by decide +kernel
theorem dL_law_1491 : decode cL_law 1491 = .ok (.goto 627, 3) := by decide +kernel
theorem dL_law_1494 : decode cL_law 1494 = .ok (.aload_n 1, 1) := by decide +kernel
theorem dL_law_1495 : decode cL_law 1495 = .ok (.aload_n 0, 1) := by decide +kernel
theorem dL_law_1496 : decode cL_law 1496 = .ok (.iload_n 3, 1) := by decide +kernel
theorem dL_law_1497 : decode cL_law 1497 = .ok (.iconst 1, 1) := by decide +kernel
theorem dL_law_1498 : decode cL_law 1498 = .ok (.iadd, 1) := by decide +kernel
theorem dL_law_1499 : decode cL_law 1499 = .ok (.iaload, 1) := by decide +kernel
theorem dL_law_1500 : decode cL_law 1500 = .ok (.aload_n 0, 1) := by decide +kernel
theorem dL_law_1501 : decode cL_law 1501 = .ok (.iload_n 3, 1) := by decide +kernel
theorem dL_law_1502 : decode cL_law 1502 = .ok (.iconst 2, 1) := by decide +kernel
theorem dL_law_1503 : decode cL_law 1503 = .ok (.iadd, 1) := by decide +kernel
theorem dL_law_1504 : decode cL_law 1504 = .ok (.iaload, 1) := by decide +kernel
theorem dL_law_1505 : decode cL_law 1505 = .ok (.invokevirtual 226, 3) := by decide +kernel
theorem dL_law_1508 : decode cL_law 1508 = .ok (.pop, 1) := by decide +kernel
theorem dL_law_1509 : decode cL_law 1509 = .ok (.aload_n 2, 1) := by decide +kernel
theorem dL_law_1510 : decode cL_law 1510 = .ok (.aload_n 0, 1) := by decide +kernel
theorem dL_law_1511 : decode cL_law 1511 = .ok (.iload_n 3, 1) := by decide +kernel
theorem dL_law_1512 : decode cL_law 1512 = .ok (.iconst 1, 1) := by decide +kernel
theorem dL_law_1513 : decode cL_law 1513 = .ok (.iadd, 1) := by decide +kernel
theorem dL_law_1514 : decode cL_law 1514 = .ok (.iaload, 1) := by decide +kernel
theorem dL_law_1515 : decode cL_law 1515 = .ok (.aload_n 0, 1) := by decide +kernel
theorem dL_law_1516 : decode cL_law 1516 = .ok (.iload_n 3, 1) := by decide +kernel
theorem dL_law_1517 : decode cL_law 1517 = .ok (.iconst 2, 1) := by decide +kernel
theorem dL_law_1518 : decode cL_law 1518 = .ok (.iadd, 1) := by decide +kernel
theorem dL_law_1519 : decode cL_law 1519 = .ok (.iaload, 1) := by decide +kernel
theorem dL_law_1520 : decode cL_law 1520 = .ok (.invokevirtual 229, 3) := by decide +kernel
theorem dL_law_1523 : decode cL_law 1523 = .ok (.pop, 1) := by decide +kernel
theorem dL_law_1524 : decode cL_law 1524 = .ok (.goto 594, 3) := by decide +kernel
theorem dL_law_1527 : decode cL_law 1527 = .ok (.aload_n 1, 1) := by decide +kernel
theorem dL_law_1528 : decode cL_law 1528 = .ok (.aload_n 0, 1) := by decide +kernel
theorem dL_law_1529 : decode cL_law 1529 = .ok (.iload_n 3, 1) := by decide +kernel
theorem dL_law_1530 : decode cL_law 1530 = .ok (.iconst 1, 1) := by decide +kernel
theorem dL_law_1531 : decode cL_law 1531 = .ok (.iadd, 1) := by decide +kernel
theorem dL_law_1532 : decode cL_law 1532 = .ok (.iaload, 1) := by decide +kernel
theorem dL_law_1533 : decode cL_law 1533 = .ok (.aload_n 0, 1) := by decide +kernel
theorem dL_law_1534 : decode cL_law 1534 = .ok (.iload_n 3, 1) := by decide +kernel
theorem dL_law_1535 : decode cL_law 1535 = .ok (.iconst 2, 1) := by decide +kernel
theorem dL_law_1536 : decode cL_law 1536 = .ok (.iadd, 1) := by decide +kernel
theorem dL_law_1537 : decode cL_law 1537 = .ok (.iaload, 1) := by decide +kernel
theorem dL_law_1538 : decode cL_law 1538 = .ok (.aload_n 0, 1) := by decide +kernel
theorem dL_law_1539 : decode cL_law 1539 = .ok (.iload_n 3, 1) := by decide +kernel
theorem dL_law_1540 : decode cL_law 1540 = .ok (.iconst 3, 1) := by decide +kernel
theorem dL_law_1541 : decode cL_law 1541 = .ok (.iadd, 1) := by decide +kernel
theorem dL_law_1542 : decode cL_law 1542 = .ok (.iaload, 1) := by decide +kernel
theorem dL_law_1543 : decode cL_law 1543 = .ok (.aload_n 0, 1) := by decide +kernel
theorem dL_law_1544 : decode cL_law 1544 = .ok (.iload_n 3, 1) := by decide +kernel
theorem dL_law_1545 : decode cL_law 1545 = .ok (.iconst 4, 1) := by decide +kernel
theorem dL_law_1546 : decode cL_law 1546 = .ok (.iadd, 1) := by decide +kernel
theorem dL_law_1547 : decode cL_law 1547 = .ok (.iaload, 1) := by decide +kernel
theorem dL_law_1548 : decode cL_law 1548 = .ok (.invokevirtual 230, 3) := by decide +kernel
theorem dL_law_1551 : decode cL_law 1551 = .ok (.pop, 1) := by decide +kernel
theorem dL_law_1552 : decode cL_law 1552 = .ok (.aload_n 2, 1) := by decide +kernel
theorem dL_law_1553 : decode cL_law 1553 = .ok (.aload_n 0, 1) := by decide +kernel
theorem dL_law_1554 : decode cL_law 1554 = .ok (.iload_n 3, 1) := by decide +kernel
theorem dL_law_1555 : decode cL_law 1555 = .ok (.iconst 1, 1) := by decide +kernel
theorem dL_law_1556 : decode cL_law 1556 = .ok (.iadd, 1) := by decide +kernel
theorem dL_law_1557 : decode cL_law 1557 = .ok (.iaload, 1) := by decide +kernel
theorem dL_law_1558 : decode cL_law 1558 = .ok (.aload_n 0, 1) := by decide +kernel
theorem dL_law_1559 : decode cL_law 1559 = .ok (.iload_n 3, 1) := by decide +kernel
theorem dL_law_1560 : decode cL_law 1560 = .ok (.iconst 2, 1) := by decide +kernel
theorem dL_law_1561 : decode cL_law 1561 = .ok (.iadd, 1) := by decide +kernel
theorem dL_law_1562 : decode cL_law 1562 = .ok (.iaload, 1) := by decide +kernel
theorem dL_law_1563 : decode cL_law 1563 = .ok (.aload_n 0, 1) := by decide +kernel
theorem dL_law_1564 : decode cL_law 1564 = .ok (.iload_n 3, 1) := by decide +kernel
theorem dL_law_1565 : decode cL_law 1565 = .ok (.iconst 3, 1) := by decide +kernel
theorem dL_law_1566 : decode cL_law 1566 = .ok (.iadd, 1) := by decide +kernel
theorem dL_law_1567 : decode cL_law 1567 = .ok (.iaload, 1) := by decide +kernel
theorem dL_law_1568 : decode cL_law 1568 = .ok (.aload_n 0, 1) := by decide +kernel
theorem dL_law_1569 : decode cL_law 1569 = .ok (.iload_n 3, 1) := by decide +kernel
theorem dL_law_1570 : decode cL_law 1570 = .ok (.iconst 4, 1) := by decide +kernel
theorem dL_law_1571 : decode cL_law 1571 = .ok (.iadd, 1) := by decide +kernel
theorem dL_law_1572 : decode cL_law 1572 = .ok (.iaload, 1) := by decide +kernel
theorem dL_law_1573 : decode cL_law 1573 = .ok (.invokevirtual 234, 3) := by decide +kernel
theorem dL_law_1576 : decode cL_law 1576 = .ok (.pop, 1) := by decide +kernel
theorem dL_law_1577 : decode cL_law 1577 = .ok (.goto 541, 3) := by decide +kernel
theorem dL_law_1580 : decode cL_law 1580 = .ok (.aload_n 1, 1) := by decide +kernel
theorem dL_law_1581 : decode cL_law 1581 = .ok (.aload_n 0, 1) := by decide +kernel
theorem dL_law_1582 : decode cL_law 1582 = .ok (.iload_n 3, 1) := by decide +kernel
theorem dL_law_1583 : decode cL_law 1583 = .ok (.iconst 1, 1) := by decide +kernel
theorem dL_law_1584 : decode cL_law 1584 = .ok (.iadd, 1) := by decide +kernel
theorem dL_law_1585 : decode cL_law 1585 = .ok (.iaload, 1) := by decide +kernel
theorem dL_law_1586 : decode cL_law 1586 = .ok (.aload_n 0, 1) := by decide +kernel
theorem dL_law_1587 : decode cL_law 1587 = .ok (.iload_n 3, 1) := by decide +kernel
theorem dL_law_1588 : decode cL_law 1588 = .ok (.iconst 2, 1) := by decide +kernel
theorem dL_law_1589 : decode cL_law 1589 = .ok (.iadd, 1) := by decide +kernel
theorem dL_law_1590 : decode cL_law 1590 = .ok (.iaload, 1) := by decide +kernel
theorem dL_law_1591 : decode cL_law 1591 = .ok (.invokevirtual 235, 3) := by decide +kernel
theorem dL_law_1594 : decode cL_law 1594 = .ok (.pop, 1) := by decide +kernel
theorem dL_law_1595 : decode cL_law 1595 = .ok (.aload_n 2, 1) := by decide +kernel
theorem dL_law_1596 : decode cL_law 1596 = .ok (.aload_n 0, 1) := by decide +kernel
theorem dL_law_1597 : decode cL_law 1597 = .ok (.iload_n 3, 1) := by decide +kernel
theorem dL_law_1598 : decode cL_law 1598 = .ok (.iconst 1, 1) := by decide +kernel
theorem dL_law_1599 : decode cL_law 1599 = .ok (.iadd, 1) := by decide +kernel
theorem dL_law_1600 : decode cL_law 1600 = .ok (.iaload, 1) := by decide +kernel
theorem dL_law_1601 : decode cL_law 1601 = .ok (.aload_n 0, 1) := by decide +kernel
theorem dL_law_1602 : decode cL_law 1602 = .ok (.iload_n 3, 1) := by decide +kernel
theorem dL_law_1603 : decode cL_law 1603 = .ok (.iconst 2, 1) := by decide +kernel
theorem dL_law_1604 : decode cL_law 1604 = .ok (.iadd, 1) := by decide +kernel
theorem dL_law_1605 : decode cL_law 1605 = .ok (.iaload, 1) := by decide +kernel
theorem dL_law_1606 : decode cL_law 1606 = .ok (.invokevirtual 238, 3) := by decide +kernel
theorem dL_law_1609 : decode cL_law 1609 = .ok (.pop, 1) := by decide +kernel
theorem dL_law_1610 : decode cL_law 1610 = .ok (.goto 508, 3) := by decide +kernel
theorem dL_law_1613 : decode cL_law 1613 = .ok (.aload_n 1, 1) := by decide +kernel
theorem dL_law_1614 : decode cL_law 1614 = .ok (.aload_n 0, 1) := by decide +kernel
theorem dL_law_1615 : decode cL_law 1615 = .ok (.iload_n 3, 1) := by decide +kernel
theorem dL_law_1616 : decode cL_law 1616 = .ok (.iconst 1, 1) := by decide +kernel
theorem dL_law_1617 : decode cL_law 1617 = .ok (.iadd, 1) := by decide +kernel
theorem dL_law_1618 : decode cL_law 1618 = .ok (.iaload, 1) := by decide +kernel
theorem dL_law_1619 : decode cL_law 1619 = .ok (.invokevirtual 239, 3) := by decide +kernel
theorem dL_law_1622 : decode cL_law 1622 = .ok (.pop, 1) := by decide +kernel
theorem dL_law_1623 : decode cL_law 1623 = .ok (.aload_n 2, 1) := by decide +kernel
theorem dL_law_1624 : decode cL_law 1624 = .ok (.aload_n 0, 1) := by decide +kernel
theorem dL_law_1625 : decode cL_law 1625 = .ok (.iload_n 3, 1) := by decide +kernel
theorem dL_law_1626 : decode cL_law 1626 = .ok (.iconst 1, 1) := by decide +kernel
theorem dL_law_1627 : decode cL_law 1627 = .ok (.iadd, 1) := by decide +kernel
theorem dL_law_1628 : decode cL_law 1628 = .ok (.iaload, 1) := by decide +kernel
theorem dL_law_1629 : decode cL_law 1629 = .ok (.invokevirtual 242, 3) := by decide +kernel
theorem dL_law_1632 : decode cL_law 1632 = .ok (.pop, 1) := by decide +kernel
theorem dL_law_1633 : decode cL_law 1633 = .ok (.goto 485, 3) := by decide +kernel
theorem wd1566 : Cond.instanceMethod yX9_spots ∈ gW := gm (tm_5 13 (by decide +kernel)) rfl
theorem wd1567 : Cond.selects RX9 yX9_spots yX9_spots ∈ gW := gm (tm_5 14 (by decide +kernel)) rfl
theorem wd1568 : Cond.code yX9_spots cX9_spots 3 (some .int) ∈ gW := gm (tm_5 15 (by decide +kernel)) rfl
theorem wd1569 : Cond.methodLink RL 185 yX9_spots ∈ gW := gm (tm_5 12 (by decide +kernel)) rfl
theorem wd1570 : Cond.instanceMethod yX10_spots ∈ gW := gm (tm_8 224 (by decide +kernel)) rfl
theorem wd1571 : Cond.selects RX10 yX10_spots yX10_spots ∈ gW := gm (tm_8 225 (by decide +kernel)) rfl
theorem wd1572 : Cond.code yX10_spots cX10_spots 3 (some .int) ∈ gW := gm (tm_8 226 (by decide +kernel)) rfl
theorem wd1573 : Cond.methodLink RL 188 yX10_spots ∈ gW := gm (tm_8 223 (by decide +kernel)) rfl
theorem wd1574 : Cond.instanceMethod yX9_who ∈ gW := gm (tm_5 21 (by decide +kernel)) rfl
theorem wd1575 : Cond.selects RX9 yX9_who yX9_who ∈ gW := gm (tm_5 22 (by decide +kernel)) rfl
theorem wd1576 : Cond.code yX9_who cX9_who 3 (some .int) ∈ gW := gm (tm_5 23 (by decide +kernel)) rfl
theorem wd1577 : Cond.methodLink RL 189 yX9_who ∈ gW := gm (tm_5 20 (by decide +kernel)) rfl
theorem wd1578 : Cond.instanceMethod yX10_who ∈ gW := gm (tm_8 228 (by decide +kernel)) rfl
theorem wd1579 : Cond.selects RX10 yX10_who yX10_who ∈ gW := gm (tm_8 229 (by decide +kernel)) rfl
theorem wd1580 : Cond.code yX10_who cX10_who 3 (some .int) ∈ gW := gm (tm_8 230 (by decide +kernel)) rfl
theorem wd1581 : Cond.methodLink RL 192 yX10_who ∈ gW := gm (tm_8 227 (by decide +kernel)) rfl
theorem wd1582 : Cond.instanceMethod yX9_leaves ∈ gW := gm (tm_5 37 (by decide +kernel)) rfl
theorem wd1583 : Cond.selects RX9 yX9_leaves yX9_leaves ∈ gW := gm (tm_5 38 (by decide +kernel)) rfl
theorem wd1584 : Cond.code yX9_leaves cX9_leaves 5 (some .int) ∈ gW := gm (tm_5 39 (by decide +kernel)) rfl
theorem wd1585 : Cond.methodLink RL 193 yX9_leaves ∈ gW := gm (tm_5 36 (by decide +kernel)) rfl
theorem wd1586 : Cond.instanceMethod yX10_leaves ∈ gW := gm (tm_8 236 (by decide +kernel)) rfl
theorem wd1587 : Cond.selects RX10 yX10_leaves yX10_leaves ∈ gW := gm (tm_8 237 (by decide +kernel)) rfl
theorem wd1588 : Cond.code yX10_leaves cX10_leaves 3 (some .int) ∈ gW := gm (tm_8 238 (by decide +kernel)) rfl
theorem wd1589 : Cond.methodLink RL 196 yX10_leaves ∈ gW := gm (tm_8 235 (by decide +kernel)) rfl
theorem wd1590 : Cond.instanceMethod yX9_odds ∈ gW := gm (tm_5 42 (by decide +kernel)) rfl
theorem wd1591 : Cond.selects RX9 yX9_odds yX9_odds ∈ gW := gm (tm_5 43 (by decide +kernel)) rfl
theorem wd1592 : Cond.code yX9_odds cX9_odds 6 (some .int) ∈ gW := gm (tm_5 44 (by decide +kernel)) rfl
theorem wd1593 : Cond.methodLink RL 197 yX9_odds ∈ gW := gm (tm_5 41 (by decide +kernel)) rfl
theorem wd1594 : Cond.instanceMethod yX10_odds ∈ gW := gm (tm_9 0 (by decide +kernel)) rfl
theorem wd1595 : Cond.selects RX10 yX10_odds yX10_odds ∈ gW := gm (tm_9 1 (by decide +kernel)) rfl
theorem wd1596 : Cond.code yX10_odds cX10_odds 5 (some .int) ∈ gW := gm (tm_9 2 (by decide +kernel)) rfl
theorem wd1597 : Cond.methodLink RL 201 yX10_odds ∈ gW := gm (tm_8 239 (by decide +kernel)) rfl
theorem wd1598 : Cond.instanceMethod yX9_homes ∈ gW := gm (tm_5 56 (by decide +kernel)) rfl
theorem wd1599 : Cond.selects RX9 yX9_homes yX9_homes ∈ gW := gm (tm_5 57 (by decide +kernel)) rfl
theorem wd1600 : Cond.code yX9_homes cX9_homes 1 (some .int) ∈ gW := gm (tm_5 58 (by decide +kernel)) rfl
theorem wd1601 : Cond.methodLink RL 202 yX9_homes ∈ gW := gm (tm_5 55 (by decide +kernel)) rfl
theorem wd1602 : Cond.instanceMethod yX10_homes ∈ gW := gm (tm_9 13 (by decide +kernel)) rfl
theorem wd1603 : Cond.selects RX10 yX10_homes yX10_homes ∈ gW := gm (tm_9 14 (by decide +kernel)) rfl
theorem wd1604 : Cond.code yX10_homes cX10_homes 1 (some .int) ∈ gW := gm (tm_9 15 (by decide +kernel)) rfl
theorem wd1605 : Cond.methodLink RL 205 yX10_homes ∈ gW := gm (tm_9 12 (by decide +kernel)) rfl
theorem wd1606 : Cond.instanceMethod yX9_home ∈ gW := gm (tm_5 84 (by decide +kernel)) rfl
theorem wd1607 : Cond.selects RX9 yX9_home yX9_home ∈ gW := gm (tm_5 85 (by decide +kernel)) rfl
theorem wd1608 : Cond.code yX9_home cX9_home 2 (some .int) ∈ gW := gm (tm_5 86 (by decide +kernel)) rfl
theorem wd1609 : Cond.methodLink RL 206 yX9_home ∈ gW := gm (tm_5 83 (by decide +kernel)) rfl
theorem wd1610 : Cond.instanceMethod yX10_home ∈ gW := gm (tm_9 29 (by decide +kernel)) rfl
theorem wd1611 : Cond.selects RX10 yX10_home yX10_home ∈ gW := gm (tm_9 30 (by decide +kernel)) rfl
theorem wd1612 : Cond.code yX10_home cX10_home 2 (some .int) ∈ gW := gm (tm_9 31 (by decide +kernel)) rfl
theorem wd1613 : Cond.methodLink RL 209 yX10_home ∈ gW := gm (tm_9 28 (by decide +kernel)) rfl
theorem wd1614 : Cond.instanceMethod yX9_swaps ∈ gW := gm (tm_5 96 (by decide +kernel)) rfl
theorem wd1615 : Cond.selects RX9 yX9_swaps yX9_swaps ∈ gW := gm (tm_5 97 (by decide +kernel)) rfl
theorem wd1616 : Cond.code yX9_swaps cX9_swaps 1 (some .int) ∈ gW := gm (tm_5 98 (by decide +kernel)) rfl
theorem wd1617 : Cond.methodLink RL 210 yX9_swaps ∈ gW := gm (tm_5 95 (by decide +kernel)) rfl
theorem wd1618 : Cond.instanceMethod yX10_swaps ∈ gW := gm (tm_9 33 (by decide +kernel)) rfl
theorem wd1619 : Cond.selects RX10 yX10_swaps yX10_swaps ∈ gW := gm (tm_9 34 (by decide +kernel)) rfl
theorem wd1620 : Cond.code yX10_swaps cX10_swaps 1 (some .int) ∈ gW := gm (tm_9 35 (by decide +kernel)) rfl
theorem wd1621 : Cond.methodLink RL 213 yX10_swaps ∈ gW := gm (tm_9 32 (by decide +kernel)) rfl
theorem wd1622 : Cond.instanceMethod yX9_swap ∈ gW := gm (tm_5 108 (by decide +kernel)) rfl
theorem wd1623 : Cond.selects RX9 yX9_swap yX9_swap ∈ gW := gm (tm_5 109 (by decide +kernel)) rfl
theorem wd1624 : Cond.code yX9_swap cX9_swap 1 (some .int) ∈ gW := gm (tm_5 110 (by decide +kernel)) rfl
theorem wd1625 : Cond.methodLink RL 214 yX9_swap ∈ gW := gm (tm_5 107 (by decide +kernel)) rfl
theorem wd1626 : Cond.instanceMethod yX10_swap ∈ gW := gm (tm_9 41 (by decide +kernel)) rfl
theorem wd1627 : Cond.selects RX10 yX10_swap yX10_swap ∈ gW := gm (tm_9 42 (by decide +kernel)) rfl
theorem wd1628 : Cond.code yX10_swap cX10_swap 1 (some .int) ∈ gW := gm (tm_9 43 (by decide +kernel)) rfl
theorem wd1629 : Cond.methodLink RL 217 yX10_swap ∈ gW := gm (tm_9 40 (by decide +kernel)) rfl
theorem wd1630 : Cond.instanceMethod yX9_price ∈ gW := gm (tm_5 116 (by decide +kernel)) rfl
theorem wd1631 : Cond.selects RX9 yX9_price yX9_price ∈ gW := gm (tm_5 117 (by decide +kernel)) rfl
theorem wd1632 : Cond.code yX9_price cX9_price 3 (some .int) ∈ gW := gm (tm_5 118 (by decide +kernel)) rfl
theorem wd1633 : Cond.methodLink RL 218 yX9_price ∈ gW := gm (tm_5 115 (by decide +kernel)) rfl
theorem wd1634 : Cond.instanceMethod yX10_price ∈ gW := gm (tm_9 45 (by decide +kernel)) rfl
theorem wd1635 : Cond.selects RX10 yX10_price yX10_price ∈ gW := gm (tm_9 46 (by decide +kernel)) rfl
theorem wd1636 : Cond.code yX10_price cX10_price 3 (some .int) ∈ gW := gm (tm_9 47 (by decide +kernel)) rfl
theorem wd1637 : Cond.methodLink RL 221 yX10_price ∈ gW := gm (tm_9 44 (by decide +kernel)) rfl
theorem wd1638 : Cond.instanceMethod yX9_cut ∈ gW := gm (tm_5 124 (by decide +kernel)) rfl
theorem wd1639 : Cond.selects RX9 yX9_cut yX9_cut ∈ gW := gm (tm_5 125 (by decide +kernel)) rfl
theorem wd1640 : Cond.code yX9_cut cX9_cut 3 (some .int) ∈ gW := gm (tm_5 126 (by decide +kernel)) rfl
theorem wd1641 : Cond.methodLink RL 222 yX9_cut ∈ gW := gm (tm_5 123 (by decide +kernel)) rfl
theorem wd1642 : Cond.instanceMethod yX10_cut_ ∈ gW := gm (tm_9 54 (by decide +kernel)) rfl
theorem wd1643 : Cond.selects RX10 yX10_cut_ yX10_cut_ ∈ gW := gm (tm_9 55 (by decide +kernel)) rfl
theorem wd1644 : Cond.code yX10_cut_ cX10_cut_ 4 (some .int) ∈ gW := gm (tm_9 56 (by decide +kernel)) rfl
theorem wd1645 : Cond.methodLink RL 225 yX10_cut_ ∈ gW := gm (tm_9 53 (by decide +kernel)) rfl
theorem wd1646 : Cond.instanceMethod yX9_rests ∈ gW := gm (tm_5 147 (by decide +kernel)) rfl
theorem wd1647 : Cond.selects RX9 yX9_rests yX9_rests ∈ gW := gm (tm_5 148 (by decide +kernel)) rfl
theorem wd1648 : Cond.code yX9_rests cX9_rests 6 (some .int) ∈ gW := gm (tm_5 149 (by decide +kernel)) rfl
theorem wd1649 : Cond.methodLink RL 226 yX9_rests ∈ gW := gm (tm_5 146 (by decide +kernel)) rfl
theorem wd1650 : Cond.instanceMethod yX10_rests ∈ gW := gm (tm_9 65 (by decide +kernel)) rfl
theorem wd1651 : Cond.selects RX10 yX10_rests yX10_rests ∈ gW := gm (tm_9 66 (by decide +kernel)) rfl
theorem wd1652 : Cond.code yX10_rests cX10_rests 8 (some .int) ∈ gW := gm (tm_9 67 (by decide +kernel)) rfl
theorem wd1653 : Cond.methodLink RL 229 yX10_rests ∈ gW := gm (tm_9 64 (by decide +kernel)) rfl
theorem wd1654 : Cond.instanceMethod yX9_has ∈ gW := gm (tm_5 163 (by decide +kernel)) rfl
theorem wd1655 : Cond.selects RX9 yX9_has yX9_has ∈ gW := gm (tm_5 164 (by decide +kernel)) rfl
theorem wd1656 : Cond.code yX9_has cX9_has 5 (some .int) ∈ gW := gm (tm_5 165 (by decide +kernel)) rfl
theorem wd1657 : Cond.methodLink RL 230 yX9_has ∈ gW := gm (tm_5 162 (by decide +kernel)) rfl
theorem wd1658 : Cond.instanceMethod yX10_has ∈ gW := gm (tm_9 77 (by decide +kernel)) rfl
theorem wd1659 : Cond.selects RX10 yX10_has yX10_has ∈ gW := gm (tm_9 78 (by decide +kernel)) rfl
theorem wd1660 : Cond.code yX10_has cX10_has 5 (some .int) ∈ gW := gm (tm_9 79 (by decide +kernel)) rfl
theorem wd1661 : Cond.methodLink RL 234 yX10_has ∈ gW := gm (tm_9 76 (by decide +kernel)) rfl
theorem wd1662 : Cond.instanceMethod yX9_chance ∈ gW := gm (tm_5 170 (by decide +kernel)) rfl
theorem wd1663 : Cond.selects RX9 yX9_chance yX9_chance ∈ gW := gm (tm_5 171 (by decide +kernel)) rfl
theorem wd1664 : Cond.code yX9_chance cX9_chance 3 (some .int) ∈ gW := gm (tm_5 172 (by decide +kernel)) rfl
theorem wd1665 : Cond.methodLink RL 235 yX9_chance ∈ gW := gm (tm_5 169 (by decide +kernel)) rfl
theorem wd1666 : Cond.instanceMethod yX10_chance ∈ gW := gm (tm_9 81 (by decide +kernel)) rfl
theorem wd1667 : Cond.selects RX10 yX10_chance yX10_chance ∈ gW := gm (tm_9 82 (by decide +kernel)) rfl
theorem wd1668 : Cond.code yX10_chance cX10_chance 3 (some .int) ∈ gW := gm (tm_9 83 (by decide +kernel)) rfl
theorem wd1669 : Cond.methodLink RL 238 yX10_chance ∈ gW := gm (tm_9 80 (by decide +kernel)) rfl
theorem wd1670 : Cond.instanceMethod yX9_mean ∈ gW := gm (tm_5 194 (by decide +kernel)) rfl
theorem wd1671 : Cond.selects RX9 yX9_mean yX9_mean ∈ gW := gm (tm_5 195 (by decide +kernel)) rfl
theorem wd1672 : Cond.code yX9_mean cX9_mean 2 (some .int) ∈ gW := gm (tm_5 196 (by decide +kernel)) rfl
theorem wd1673 : Cond.methodLink RL 239 yX9_mean ∈ gW := gm (tm_5 193 (by decide +kernel)) rfl
theorem wd1674 : Cond.instanceMethod yX10_mean ∈ gW := gm (tm_9 97 (by decide +kernel)) rfl
theorem wd1675 : Cond.selects RX10 yX10_mean yX10_mean ∈ gW := gm (tm_9 98 (by decide +kernel)) rfl
theorem wd1676 : Cond.code yX10_mean cX10_mean 2 (some .int) ∈ gW := gm (tm_9 99 (by decide +kernel)) rfl
theorem wd1677 : Cond.methodLink RL 242 yX10_mean ∈ gW := gm (tm_9 96 (by decide +kernel)) rfl
theorem my_X9_spots : gWV RX9 yX9_spots cX9_spots 3 (some .int) 1 := ⟨⟨wd1566, wd1567, wd2, wd1568⟩, ⟨rfl, by decide +kernel, by decide +kernel, by decide +kernel⟩⟩
theorem my_X10_spots : gWV RX10 yX10_spots cX10_spots 3 (some .int) 1 := ⟨⟨wd1570, wd1571, wd742, wd1572⟩, ⟨rfl, by decide +kernel, by decide +kernel, by decide +kernel⟩⟩
theorem my_X9_who : gWV RX9 yX9_who cX9_who 3 (some .int) 1 := ⟨⟨wd1574, wd1575, wd2, wd1576⟩, ⟨rfl, by decide +kernel, by decide +kernel, by decide +kernel⟩⟩
theorem my_X10_who : gWV RX10 yX10_who cX10_who 3 (some .int) 1 := ⟨⟨wd1578, wd1579, wd742, wd1580⟩, ⟨rfl, by decide +kernel, by decide +kernel, by decide +kernel⟩⟩
theorem my_X9_leaves : gWV RX9 yX9_leaves cX9_leaves 5 (some .int) 1 := ⟨⟨wd1582, wd1583, wd2, wd1584⟩, ⟨rfl, by decide +kernel, by decide +kernel, by decide +kernel⟩⟩
theorem my_X10_leaves : gWV RX10 yX10_leaves cX10_leaves 3 (some .int) 1 := ⟨⟨wd1586, wd1587, wd742, wd1588⟩, ⟨rfl, by decide +kernel, by decide +kernel, by decide +kernel⟩⟩
theorem my_X9_odds : gWV RX9 yX9_odds cX9_odds 6 (some .int) 3 := ⟨⟨wd1590, wd1591, wd2, wd1592⟩, ⟨rfl, by decide +kernel, by decide +kernel, by decide +kernel⟩⟩
theorem my_X10_odds : gWV RX10 yX10_odds cX10_odds 5 (some .int) 3 := ⟨⟨wd1594, wd1595, wd742, wd1596⟩, ⟨rfl, by decide +kernel, by decide +kernel, by decide +kernel⟩⟩
theorem my_X9_homes : gWV RX9 yX9_homes cX9_homes 1 (some .int) 0 := ⟨⟨wd1598, wd1599, wd2, wd1600⟩, ⟨rfl, by decide +kernel, by decide +kernel, by decide +kernel⟩⟩
theorem my_X10_homes : gWV RX10 yX10_homes cX10_homes 1 (some .int) 0 := ⟨⟨wd1602, wd1603, wd742, wd1604⟩, ⟨rfl, by decide +kernel, by decide +kernel, by decide +kernel⟩⟩
theorem my_X9_home : gWV RX9 yX9_home cX9_home 2 (some .int) 1 := ⟨⟨wd1606, wd1607, wd2, wd1608⟩, ⟨rfl, by decide +kernel, by decide +kernel, by decide +kernel⟩⟩
theorem my_X10_home : gWV RX10 yX10_home cX10_home 2 (some .int) 1 := ⟨⟨wd1610, wd1611, wd742, wd1612⟩, ⟨rfl, by decide +kernel, by decide +kernel, by decide +kernel⟩⟩
theorem my_X9_swaps : gWV RX9 yX9_swaps cX9_swaps 1 (some .int) 0 := ⟨⟨wd1614, wd1615, wd2, wd1616⟩, ⟨rfl, by decide +kernel, by decide +kernel, by decide +kernel⟩⟩
theorem my_X10_swaps : gWV RX10 yX10_swaps cX10_swaps 1 (some .int) 0 := ⟨⟨wd1618, wd1619, wd742, wd1620⟩, ⟨rfl, by decide +kernel, by decide +kernel, by decide +kernel⟩⟩
theorem my_X9_swap : gWV RX9 yX9_swap cX9_swap 1 (some .int) 0 := ⟨⟨wd1622, wd1623, wd2, wd1624⟩, ⟨rfl, by decide +kernel, by decide +kernel, by decide +kernel⟩⟩
theorem my_X10_swap : gWV RX10 yX10_swap cX10_swap 1 (some .int) 0 := ⟨⟨wd1626, wd1627, wd742, wd1628⟩, ⟨rfl, by decide +kernel, by decide +kernel, by decide +kernel⟩⟩
theorem my_X9_price : gWV RX9 yX9_price cX9_price 3 (some .int) 1 := ⟨⟨wd1630, wd1631, wd2, wd1632⟩, ⟨rfl, by decide +kernel, by decide +kernel, by decide +kernel⟩⟩
theorem my_X10_price : gWV RX10 yX10_price cX10_price 3 (some .int) 1 := ⟨⟨wd1634, wd1635, wd742, wd1636⟩, ⟨rfl, by decide +kernel, by decide +kernel, by decide +kernel⟩⟩
theorem my_X9_cut : gWV RX9 yX9_cut cX9_cut 3 (some .int) 2 := ⟨⟨wd1638, wd1639, wd2, wd1640⟩, ⟨rfl, by decide +kernel, by decide +kernel, by decide +kernel⟩⟩
theorem my_X10_cut_ : gWV RX10 yX10_cut_ cX10_cut_ 4 (some .int) 2 := ⟨⟨wd1642, wd1643, wd742, wd1644⟩, ⟨rfl, by decide +kernel, by decide +kernel, by decide +kernel⟩⟩
theorem my_X9_rests : gWV RX9 yX9_rests cX9_rests 6 (some .int) 2 := ⟨⟨wd1646, wd1647, wd2, wd1648⟩, ⟨rfl, by decide +kernel, by decide +kernel, by decide +kernel⟩⟩
theorem my_X10_rests : gWV RX10 yX10_rests cX10_rests 8 (some .int) 2 := ⟨⟨wd1650, wd1651, wd742, wd1652⟩, ⟨rfl, by decide +kernel, by decide +kernel, by decide +kernel⟩⟩
theorem my_X9_has : gWV RX9 yX9_has cX9_has 5 (some .int) 4 := ⟨⟨wd1654, wd1655, wd2, wd1656⟩, ⟨rfl, by decide +kernel, by decide +kernel, by decide +kernel⟩⟩
theorem my_X10_has : gWV RX10 yX10_has cX10_has 5 (some .int) 4 := ⟨⟨wd1658, wd1659, wd742, wd1660⟩, ⟨rfl, by decide +kernel, by decide +kernel, by decide +kernel⟩⟩
theorem my_X9_chance : gWV RX9 yX9_chance cX9_chance 3 (some .int) 2 := ⟨⟨wd1662, wd1663, wd2, wd1664⟩, ⟨rfl, by decide +kernel, by decide +kernel, by decide +kernel⟩⟩
theorem my_X10_chance : gWV RX10 yX10_chance cX10_chance 3 (some .int) 2 := ⟨⟨wd1666, wd1667, wd742, wd1668⟩, ⟨rfl, by decide +kernel, by decide +kernel, by decide +kernel⟩⟩
theorem my_X9_mean : gWV RX9 yX9_mean cX9_mean 2 (some .int) 1 := ⟨⟨wd1670, wd1671, wd2, wd1672⟩, ⟨rfl, by decide +kernel, by decide +kernel, by decide +kernel⟩⟩
theorem my_X10_mean : gWV RX10 yX10_mean cX10_mean 2 (some .int) 1 := ⟨⟨wd1674, wd1675, wd742, wd1676⟩, ⟨rfl, by decide +kernel, by decide +kernel, by decide +kernel⟩⟩
