theorem dL_law_1354 : decode cL_law 1354 = .ok (.aload_n 1, 1) := by decide +kernel
theorem dL_law_1355 : decode cL_law 1355 = .ok (.aload_n 0, 1) := by decide +kernel
theorem dL_law_1356 : decode cL_law 1356 = .ok (.iload_n 3, 1) := by decide +kernel
theorem dL_law_1357 : decode cL_law 1357 = .ok (.iconst 1, 1) := by decide +kernel
theorem dL_law_1358 : decode cL_law 1358 = .ok (.iadd, 1) := by decide +kernel
theorem dL_law_1359 : decode cL_law 1359 = .ok (.iaload, 1) := by decide +kernel
theorem dL_law_1360 : decode cL_law 1360 = .ok (.aload_n 0, 1) := by decide +kernel
theorem dL_law_1361 : decode cL_law 1361 = .ok (.iload_n 3, 1) := by decide +kernel
theorem dL_law_1362 : decode cL_law 1362 = .ok (.iconst 2, 1) := by decide +kernel
theorem dL_law_1363 : decode cL_law 1363 = .ok (.iadd, 1) := by decide +kernel
theorem dL_law_1364 : decode cL_law 1364 = .ok (.iaload, 1) := by decide +kernel
theorem dL_law_1365 : decode cL_law 1365 = .ok (.aload_n 0, 1) := by decide +kernel
theorem dL_law_1366 : decode cL_law 1366 = .ok (.iload_n 3, 1) := by decide +kernel
theorem dL_law_1367 : decode cL_law 1367 = .ok (.iconst 3, 1) := by decide +kernel
theorem dL_law_1368 : decode cL_law 1368 = .ok (.iadd, 1) := by decide +kernel
theorem dL_law_1369 : decode cL_law 1369 = .ok (.iaload, 1) := by decide +kernel
theorem dL_law_1370 : decode cL_law 1370 = .ok (.invokevirtual 152, 3) := by decide +kernel
theorem dL_law_1373 : decode cL_law 1373 = .ok (.aload_n 2, 1) := by decide +kernel
theorem dL_law_1374 : decode cL_law 1374 = .ok (.aload_n 0, 1) := by decide +kernel
theorem dL_law_1375 : decode cL_law 1375 = .ok (.iload_n 3, 1) := by decide +kernel
theorem dL_law_1376 : decode cL_law 1376 = .ok (.iconst 1, 1) := by decide +kernel
theorem dL_law_1377 : decode cL_law 1377 = .ok (.iadd, 1) := by decide +kernel
theorem dL_law_1378 : decode cL_law 1378 = .ok (.iaload, 1) := by decide +kernel
theorem dL_law_1379 : decode cL_law 1379 = .ok (.aload_n 0, 1) := by decide +kernel
theorem dL_law_1380 : decode cL_law 1380 = .ok (.iload_n 3, 1) := by decide +kernel
theorem dL_law_1381 : decode cL_law 1381 = .ok (.iconst 2, 1) := by decide +kernel
theorem dL_law_1382 : decode cL_law 1382 = .ok (.iadd, 1) := by decide +kernel
theorem dL_law_1383 : decode cL_law 1383 = .ok (.iaload, 1) := by decide +kernel
theorem dL_law_1384 : decode cL_law 1384 = .ok (.aload_n 0, 1) := by decide +kernel
theorem dL_law_1385 : decode cL_law 1385 = .ok (.iload_n 3, 1) := by decide +kernel
theorem dL_law_1386 : decode cL_law 1386 = .ok (.iconst 3, 1) := by decide +kernel
theorem dL_law_1387 : decode cL_law 1387 = .ok (.iadd, 1) := by decide +kernel
theorem dL_law_1388 : decode cL_law 1388 = .ok (.iaload, 1) := by decide +kernel
theorem dL_law_1389 : decode cL_law 1389 = .ok (.invokevirtual 155, 3) := by decide +kernel
theorem dL_law_1392 : decode cL_law 1392 = .ok (.if_icmp .eq 558, 3) := by decide +kernel
theorem dL_law_1397 : decode cL_law 1397 = .ok (.aload_n 1, 1) := by decide +kernel
theorem dL_law_1398 : decode cL_law 1398 = .ok (.aload_n 0, 1) := by decide +kernel
theorem dL_law_1399 : decode cL_law 1399 = .ok (.iload_n 3, 1) := by decide +kernel
theorem dL_law_1400 : decode cL_law 1400 = .ok (.iconst 1, 1) := by decide +kernel
theorem dL_law_1401 : decode cL_law 1401 = .ok (.iadd, 1) := by decide +kernel
theorem dL_law_1402 : decode cL_law 1402 = .ok (.iaload, 1) := by decide +kernel
theorem dL_law_1403 : decode cL_law 1403 = .ok (.aload_n 0, 1) := by decide +kernel
theorem dL_law_1404 : decode cL_law 1404 = .ok (.iload_n 3, 1) := by decide +kernel
theorem dL_law_1405 : decode cL_law 1405 = .ok (.iconst 2, 1) := by decide +kernel
theorem dL_law_1406 : decode cL_law 1406 = .ok (.iadd, 1) := by decide +kernel
theorem dL_law_1407 : decode cL_law 1407 = .ok (.iaload, 1) := by decide +kernel
theorem dL_law_1408 : decode cL_law 1408 = .ok (.aload_n 0, 1) := by decide +kernel
theorem dL_law_1409 : decode cL_law 1409 = .ok (.iload_n 3, 1) := by decide +kernel
theorem dL_law_1410 : decode cL_law 1410 = .ok (.iconst 3, 1) := by decide +kernel
theorem dL_law_1411 : decode cL_law 1411 = .ok (.iadd, 1) := by decide +kernel
theorem dL_law_1412 : decode cL_law 1412 = .ok (.iaload, 1) := by decide +kernel
theorem dL_law_1413 : decode cL_law 1413 = .ok (.invokevirtual 156, 3) := by decide +kernel
theorem dL_law_1416 : decode cL_law 1416 = .ok (.aload_n 2, 1) := by decide +kernel
theorem dL_law_1417 : decode cL_law 1417 = .ok (.aload_n 0, 1) := by decide +kernel
theorem dL_law_1418 : decode cL_law 1418 = .ok (.iload_n 3, 1) := by decide +kernel
theorem dL_law_1419 : decode cL_law 1419 = .ok (.iconst 1, 1) := by decide +kernel
theorem dL_law_1420 : decode cL_law 1420 = .ok (.iadd, 1) := by decide +kernel
theorem dL_law_1421 : decode cL_law 1421 = .ok (.iaload, 1) := by decide +kernel
theorem dL_law_1422 : decode cL_law 1422 = .ok (.aload_n 0, 1) := by decide +kernel
theorem dL_law_1423 : decode cL_law 1423 = .ok (.iload_n 3, 1) := by decide +kernel
theorem dL_law_1424 : decode cL_law 1424 = .ok (.iconst 2, 1) := by decide +kernel
theorem dL_law_1425 : decode cL_law 1425 = .ok (.iadd, 1) := by decide +kernel
theorem dL_law_1426 : decode cL_law 1426 = .ok (.iaload, 1) := by decide +kernel
theorem dL_law_1427 : decode cL_law 1427 = .ok (.aload_n 0, 1) := by decide +kernel
theorem dL_law_1428 : decode cL_law 1428 = .ok (.iload_n 3, 1) := by decide +kernel
theorem dL_law_1429 : decode cL_law 1429 = .ok (.iconst 3, 1) := by decide +kernel
theorem dL_law_1430 : decode cL_law 1430 = .ok (.iadd, 1) := by decide +kernel
theorem dL_law_1431 : decode cL_law 1431 = .ok (.iaload, 1) := by decide +kernel
theorem dL_law_1432 : decode cL_law 1432 = .ok (.invokevirtual 159, 3) := by decide +kernel
theorem dL_law_1435 : decode cL_law 1435 = .ok (.if_icmp .eq 515, 3) := by decide +kernel
theorem dL_law_1440 : decode cL_law 1440 = .ok (.aload_n 1, 1) := by decide +kernel
theorem dL_law_1441 : decode cL_law 1441 = .ok (.aload_n 0, 1) := by decide +kernel
theorem dL_law_1442 : decode cL_law 1442 = .ok (.iload_n 3, 1) := by decide +kernel
theorem dL_law_1443 : decode cL_law 1443 = .ok (.iconst 1, 1) := by decide +kernel
theorem dL_law_1444 : decode cL_law 1444 = .ok (.iadd, 1) := by decide +kernel
theorem dL_law_1445 : decode cL_law 1445 = .ok (.iaload, 1) := by decide +kernel
theorem dL_law_1446 : decode cL_law 1446 = .ok (.aload_n 0, 1) := by decide +kernel
theorem dL_law_1447 : decode cL_law 1447 = .ok (.iload_n 3, 1) := by decide +kernel
theorem dL_law_1448 : decode cL_law 1448 = .ok (.iconst 2, 1) := by decide +kernel
theorem dL_law_1449 : decode cL_law 1449 = .ok (.iadd, 1) := by decide +kernel
theorem dL_law_1450 : decode cL_law 1450 = .ok (.iaload, 1) := by decide +kernel
theorem dL_law_1451 : decode cL_law 1451 = .ok (.aload_n 0, 1) := by decide +kernel
theorem dL_law_1452 : decode cL_law 1452 = .ok (.iload_n 3, 1) := by decide +kernel
theorem dL_law_1453 : decode cL_law 1453 = .ok (.iconst 3, 1) := by decide +kernel
theorem dL_law_1454 : decode cL_law 1454 = .ok (.iadd, 1) := by decide +kernel
theorem dL_law_1455 : decode cL_law 1455 = .ok (.iaload, 1) := by decide +kernel
theorem dL_law_1456 : decode cL_law 1456 = .ok (.invokevirtual 160, 3) := by decide +kernel
theorem dL_law_1459 : decode cL_law 1459 = .ok (.aload_n 2, 1) := by decide +kernel
theorem dL_law_1460 : decode cL_law 1460 = .ok (.aload_n 0, 1) := by decide +kernel
theorem dL_law_1461 : decode cL_law 1461 = .ok (.iload_n 3, 1) := by decide +kernel
theorem dL_law_1462 : decode cL_law 1462 = .ok (.iconst 1, 1) := by decide +kernel
theorem dL_law_1463 : decode cL_law 1463 = .ok (.iadd, 1) := by decide +kernel
theorem dL_law_1464 : decode cL_law 1464 = .ok (.iaload, 1) := by decide +kernel
theorem dL_law_1465 : decode cL_law 1465 = .ok (.aload_n 0, 1) := by decide +kernel
theorem dL_law_1466 : decode cL_law 1466 = .ok (.iload_n 3, 1) := by decide +kernel
theorem dL_law_1467 : decode cL_law 1467 = .ok (.iconst 2, 1) := by decide +kernel
theorem dL_law_1468 : decode cL_law 1468 = .ok (.iadd, 1) := by decide +kernel
theorem dL_law_1469 : decode cL_law 1469 = .ok (.iaload, 1) := by decide +kernel
theorem dL_law_1470 : decode cL_law 1470 = .ok (.aload_n 0, 1) := by decide +kernel
theorem dL_law_1471 : decode cL_law 1471 = .ok (.iload_n 3, 1) := by decide +kernel
theorem dL_law_1472 : decode cL_law 1472 = .ok (.iconst 3, 1) := by decide +kernel
theorem dL_law_1473 : decode cL_law 1473 = .ok (.iadd, 1) := by decide +kernel
theorem dL_law_1474 : decode cL_law 1474 = .ok (.iaload, 1) := by decide +kernel
theorem dL_law_1475 : decode cL_law 1475 = .ok (.invokevirtual 163, 3) := by decide +kernel
theorem dL_law_1478 : decode cL_law 1478 = .ok (.if_icmp .eq 472, 3) := by decide +kernel
theorem dL_law_1483 : decode cL_law 1483 = .ok (.aload_n 1, 1) := by decide +kernel
theorem dL_law_1484 : decode cL_law 1484 = .ok (.aload_n 0, 1) := by decide +kernel
theorem dL_law_1485 : decode cL_law 1485 = .ok (.iload_n 3, 1) := by decide +kernel
theorem dL_law_1486 : decode cL_law 1486 = .ok (.iconst 1, 1) := by decide +kernel
theorem dL_law_1487 : decode cL_law 1487 = .ok (.iadd, 1) := by decide +kernel
theorem dL_law_1488 : decode cL_law 1488 = .ok (.iaload, 1) := by decide +kernel
theorem dL_law_1489 : decode cL_law 1489 = .ok (.aload_n 0, 1) := by decide +kernel
theorem dL_law_1490 : decode cL_law 1490 = .ok (.iload_n 3, 1) := by decide +kernel
theorem dL_law_1491 : decode cL_law 1491 = .ok (.iconst 2, 1) := by decide +kernel
theorem dL_law_1492 : decode cL_law 1492 = .ok (.iadd, 1) := by decide +kernel
theorem dL_law_1493 : decode cL_law 1493 = .ok (.iaload, 1) := by decide +kernel
theorem dL_law_1494 : decode cL_law 1494 = .ok (.aload_n 0, 1) := by decide +kernel
theorem dL_law_1495 : decode cL_law 1495 = .ok (.iload_n 3, 1) := by decide +kernel
theorem dL_law_1496 : decode cL_law 1496 = .ok (.iconst 3, 1) := by decide +kernel
theorem dL_law_1497 : decode cL_law 1497 = .ok (.iadd, 1) := by decide +kernel
theorem dL_law_1498 : decode cL_law 1498 = .ok (.iaload, 1) := by decide +kernel
theorem dL_law_1499 : decode cL_law 1499 = .ok (.aload_n 0, 1) := by decide +kernel
theorem dL_law_1500 : decode cL_law 1500 = .ok (.iload_n 3, 1) := by decide +kernel
theorem dL_law_1501 : decode cL_law 1501 = .ok (.iconst 4, 1) := by decide +kernel
theorem dL_law_1502 : decode cL_law 1502 = .ok (.iadd, 1) := by decide +kernel
theorem dL_law_1503 : decode cL_law 1503 = .ok (.iaload, 1) := by decide +kernel
theorem dL_law_1504 : decode cL_law 1504 = .ok (.invokevirtual 164, 3) := by decide +kernel
theorem dL_law_1507 : decode cL_law 1507 = .ok (.aload_n 2, 1) := by decide +kernel
theorem dL_law_1508 : decode cL_law 1508 = .ok (.aload_n 0, 1) := by decide +kernel
theorem dL_law_1509 : decode cL_law 1509 = .ok (.iload_n 3, 1) := by decide +kernel
theorem dL_law_1510 : decode cL_law 1510 = .ok (.iconst 1, 1) := by decide +kernel
theorem dL_law_1511 : decode cL_law 1511 = .ok (.iadd, 1) := by decide +kernel
theorem dL_law_1512 : decode cL_law 1512 = .ok (.iaload, 1) := by decide +kernel
theorem dL_law_1513 : decode cL_law 1513 = .ok (.aload_n 0, 1) := by decide +kernel
theorem dL_law_1514 : decode cL_law 1514 = .ok (.iload_n 3, 1) := by decide +kernel
theorem dL_law_1515 : decode cL_law 1515 = .ok (.iconst 2, 1) := by decide +kernel
theorem dL_law_1516 : decode cL_law 1516 = .ok (.iadd, 1) := by decide +kernel
theorem dL_law_1517 : decode cL_law 1517 = .ok (.iaload, 1) := by decide +kernel
theorem dL_law_1518 : decode cL_law 1518 = .ok (.aload_n 0, 1) := by decide +kernel
theorem dL_law_1519 : decode cL_law 1519 = .ok (.iload_n 3, 1) := by decide +kernel
theorem dL_law_1520 : decode cL_law 1520 = .ok (.iconst 3, 1) := by decide +kernel
theorem dL_law_1521 : decode cL_law 1521 = .ok (.iadd, 1) := by decide +kernel
theorem dL_law_1522 : decode cL_law 1522 = .ok (.iaload, 1) := by decide +kernel
theorem dL_law_1523 : decode cL_law 1523 = .ok (.aload_n 0, 1) := by decide +kernel
theorem dL_law_1524 : decode cL_law 1524 = .ok (.iload_n 3, 1) := by decide +kernel
theorem dL_law_1525 : decode cL_law 1525 = .ok (.iconst 4, 1) := by decide +kernel
theorem dL_law_1526 : decode cL_law 1526 = .ok (.iadd, 1) := by decide +kernel
theorem dL_law_1527 : decode cL_law 1527 = .ok (.iaload, 1) := by decide +kernel
theorem dL_law_1528 : decode cL_law 1528 = .ok (.invokevirtual 167, 3) := by decide +kernel
theorem dL_law_1531 : decode cL_law 1531 = .ok (.if_icmp .eq 419, 3) := by decide +kernel
theorem dL_law_1536 : decode cL_law 1536 = .ok (.aload_n 1, 1) := by decide +kernel
theorem dL_law_1537 : decode cL_law 1537 = .ok (.aload_n 0, 1) := by decide +kernel
theorem dL_law_1538 : decode cL_law 1538 = .ok (.iload_n 3, 1) := by decide +kernel
theorem dL_law_1539 : decode cL_law 1539 = .ok (.iconst 1, 1) := by decide +kernel
theorem dL_law_1540 : decode cL_law 1540 = .ok (.iadd, 1) := by decide +kernel
theorem dL_law_1541 : decode cL_law 1541 = .ok (.iaload, 1) := by decide +kernel
theorem dL_law_1542 : decode cL_law 1542 = .ok (.aload_n 0, 1) := by decide +kernel
theorem dL_law_1543 : decode cL_law 1543 = .ok (.iload_n 3, 1) := by decide +kernel
theorem dL_law_1544 : decode cL_law 1544 = .ok (.iconst 2, 1) := by decide +kernel
theorem dL_law_1545 : decode cL_law 1545 = .ok (.iadd, 1) := by decide +kernel
theorem dL_law_1546 : decode cL_law 1546 = .ok (.iaload, 1) := by decide +kernel
theorem dL_law_1547 : decode cL_law 1547 = .ok (.invokevirtual 168, 3) := by decide +kernel
theorem dL_law_1550 : decode cL_law 1550 = .ok (.aload_n 2, 1) := by decide +kernel
theorem dL_law_1551 : decode cL_law 1551 = .ok (.aload_n 0, 1) := by decide +kernel
theorem dL_law_1552 : decode cL_law 1552 = .ok (.iload_n 3, 1) := by decide +kernel
theorem dL_law_1553 : decode cL_law 1553 = .ok (.iconst 1, 1) := by decide +kernel
theorem dL_law_1554 : decode cL_law 1554 = .ok (.iadd, 1) := by decide +kernel
theorem dL_law_1555 : decode cL_law 1555 = .ok (.iaload, 1) := by decide +kernel
theorem dL_law_1556 : decode cL_law 1556 = .ok (.aload_n 0, 1) := by decide +kernel
theorem dL_law_1557 : decode cL_law 1557 = .ok (.iload_n 3, 1) := by decide +kernel
theorem dL_law_1558 : decode cL_law 1558 = .ok (.iconst 2, 1) := by decide +kernel
theorem dL_law_1559 : decode cL_law 1559 = .ok (.iadd, 1) := by decide +kernel
theorem dL_law_1560 : decode cL_law 1560 = .ok (.iaload, 1) := by decide +kernel
theorem dL_law_1561 : decode cL_law 1561 = .ok (.invokevirtual 171, 3) := by decide +kernel
theorem dL_law_1564 : decode cL_law 1564 = .ok (.if_icmp .eq 386, 3) := by decide +kernel
theorem dL_law_1569 : decode cL_law 1569 = .ok (.aload_n 1, 1) := by decide +kernel
theorem dL_law_1570 : decode cL_law 1570 = .ok (.aload_n 0, 1) := by decide +kernel
theorem dL_law_1571 : decode cL_law 1571 = .ok (.iload_n 3, 1) := by decide +kernel
theorem dL_law_1572 : decode cL_law 1572 = .ok (.iconst 1, 1) := by decide +kernel
theorem dL_law_1573 : decode cL_law 1573 = .ok (.iadd, 1) := by decide +kernel
theorem dL_law_1574 : decode cL_law 1574 = .ok (.iaload, 1) := by decide +kernel
theorem dL_law_1575 : decode cL_law 1575 = .ok (.aload_n 0, 1) := by decide +kernel
theorem dL_law_1576 : decode cL_law 1576 = .ok (.iload_n 3, 1) := by decide +kernel
theorem dL_law_1577 : decode cL_law 1577 = .ok (.iconst 2, 1) := by decide +kernel
theorem dL_law_1578 : decode cL_law 1578 = .ok (.iadd, 1) := by decide +kernel
theorem dL_law_1579 : decode cL_law 1579 = .ok (.iaload, 1) := by decide +kernel
theorem dL_law_1580 : decode cL_law 1580 = .ok (.aload_n 0, 1) := by decide +kernel
theorem dL_law_1581 : decode cL_law 1581 = .ok (.iload_n 3, 1) := by decide +kernel
theorem dL_law_1582 : decode cL_law 1582 = .ok (.iconst 3, 1) := by decide +kernel
theorem dL_law_1583 : decode cL_law 1583 = .ok (.iadd, 1) := by decide +kernel
theorem dL_law_1584 : decode cL_law 1584 = .ok (.iaload, 1) := by decide +kernel
theorem dL_law_1585 : decode cL_law 1585 = .ok (.invokevirtual 172, 3) := by decide +kernel
theorem dL_law_1588 : decode cL_law 1588 = .ok (.aload_n 2, 1) := by decide +kernel
theorem dL_law_1589 : decode cL_law 1589 = .ok (.aload_n 0, 1) := by decide +kernel
theorem dL_law_1590 : decode cL_law 1590 = .ok (.iload_n 3, 1) := by decide +kernel
theorem dL_law_1591 : decode cL_law 1591 = .ok (.iconst 1, 1) := by decide +kernel
theorem dL_law_1592 : decode cL_law 1592 = .ok (.iadd, 1) := by decide +kernel
theorem dL_law_1593 : decode cL_law 1593 = .ok (.iaload, 1) := by decide +kernel
theorem dL_law_1594 : decode cL_law 1594 = .ok (.aload_n 0, 1) := by decide +kernel
theorem dL_law_1595 : decode cL_law 1595 = .ok (.iload_n 3, 1) := by decide +kernel
theorem dL_law_1596 : decode cL_law 1596 = .ok (.iconst 2, 1) := by decide +kernel
theorem dL_law_1597 : decode cL_law 1597 = .ok (.iadd, 1) := by decide +kernel
theorem dL_law_1598 : decode cL_law 1598 = .ok (.iaload, 1) := by decide +kernel
theorem dL_law_1599 : decode cL_law 1599 = .ok (.aload_n 0, 1) := by decide +kernel
theorem dL_law_1600 : decode cL_law 1600 = .ok (.iload_n 3, 1) := by decide +kernel
theorem dL_law_1601 : decode cL_law 1601 = .ok (.iconst 3, 1) := by decide +kernel
theorem dL_law_1602 : decode cL_law 1602 = .ok (.iadd, 1) := by decide +kernel
theorem dL_law_1603 : decode cL_law 1603 = .ok (.iaload, 1) := by decide +kernel
theorem dL_law_1604 : decode cL_law 1604 = .ok (.invokevirtual 175, 3) := by decide +kernel
theorem dL_law_1607 : decode cL_law 1607 = .ok (.if_icmp .eq 343, 3) := by decide +kernel
theorem dL_law_1612 : decode cL_law 1612 = .ok (.aload_n 1, 1) := by decide +kernel
theorem dL_law_1613 : decode cL_law 1613 = .ok (.aload_n 0, 1) := by decide +kernel
theorem dL_law_1614 : decode cL_law 1614 = .ok (.iload_n 3, 1) := by decide +kernel
theorem dL_law_1615 : decode cL_law 1615 = .ok (.iconst 1, 1) := by decide +kernel
theorem dL_law_1616 : decode cL_law 1616 = .ok (.iadd, 1) := by decide +kernel
theorem dL_law_1617 : decode cL_law 1617 = .ok (.iaload, 1) := by decide +kernel
theorem dL_law_1618 : decode cL_law 1618 = .ok (.aload_n 0, 1) := by decide +kernel
theorem dL_law_1619 : decode cL_law 1619 = .ok (.iload_n 3, 1) := by decide +kernel
theorem dL_law_1620 : decode cL_law 1620 = .ok (.iconst 2, 1) := by decide +kernel
theorem dL_law_1621 : decode cL_law 1621 = .ok (.iadd, 1) := by decide +kernel
theorem dL_law_1622 : decode cL_law 1622 = .ok (.iaload, 1) := by decide +kernel
theorem dL_law_1623 : decode cL_law 1623 = .ok (.invokevirtual 176, 3) := by decide +kernel
theorem dL_law_1626 : decode cL_law 1626 = .ok (.aload_n 2, 1) := by decide +kernel
theorem dL_law_1627 : decode cL_law 1627 = .ok (.aload_n 0, 1) := by decide +kernel
theorem dL_law_1628 : decode cL_law 1628 = .ok (.iload_n 3, 1) := by decide +kernel
theorem dL_law_1629 : decode cL_law 1629 = .ok (.iconst 1, 1) := by decide +kernel
theorem dL_law_1630 : decode cL_law 1630 = .ok (.iadd, 1) := by decide +kernel
theorem dL_law_1631 : decode cL_law 1631 = .ok (.iaload, 1) := by decide +kernel
theorem dL_law_1632 : decode cL_law 1632 = .ok (.aload_n 0, 1) := by decide +kernel
theorem dL_law_1633 : decode cL_law 1633 = .ok (.iload_n 3, 1) := by decide +kernel
theorem dL_law_1634 : decode cL_law 1634 = .ok (.iconst 2, 1) := by decide +kernel
theorem dL_law_1635 : decode cL_law 1635 = .ok (.iadd, 1) := by decide +kernel
theorem dL_law_1636 : decode cL_law 1636 = .ok (.iaload, 1) := by decide +kernel
theorem dL_law_1637 : decode cL_law 1637 = .ok (.invokevirtual 179, 3) := by decide +kernel
theorem dL_law_1640 : decode cL_law 1640 = .ok (.if_icmp .eq 310, 3) := by decide +kernel
theorem dL_law_1645 : decode cL_law 1645 = .ok (.aload_n 1, 1) := by decide +kernel
theorem dL_law_1646 : decode cL_law 1646 = .ok (.aload_n 0, 1) := by decide +kernel
theorem dL_law_1647 : decode cL_law 1647 = .ok (.iload_n 3, 1) := by decide +kernel
theorem dL_law_1648 : decode cL_law 1648 = .ok (.iconst 1, 1) := by decide +kernel
theorem dL_law_1649 : decode cL_law 1649 = .ok (.iadd, 1) := by decide +kernel
theorem dL_law_1650 : decode cL_law 1650 = .ok (.iaload, 1) := by decide +kernel
theorem dL_law_1651 : decode cL_law 1651 = .ok (.invokevirtual 180, 3) := by decide +kernel
theorem dL_law_1654 : decode cL_law 1654 = .ok (.aload_n 2, 1) := by decide +kernel
theorem dL_law_1655 : decode cL_law 1655 = .ok (.aload_n 0, 1) := by decide +kernel
theorem dL_law_1656 : decode cL_law 1656 = .ok (.iload_n 3, 1) := by decide +kernel
theorem dL_law_1657 : decode cL_law 1657 = .ok (.iconst 1, 1) := by decide +kernel
theorem dL_law_1658 : decode cL_law 1658 = .ok (.iadd, 1) := by decide +kernel
theorem dL_law_1659 : decode cL_law 1659 = .ok (.iaload, 1) := by decide +kernel
theorem dL_law_1660 : decode cL_law 1660 = .ok (.invokevirtual 183, 3) := by decide +kernel
theorem dL_law_1663 : decode cL_law 1663 = .ok (.if_icmp .eq 287, 3) := by decide +kernel
theorem dL_law_1668 : decode cL_law 1668 = .ok (.aload_n 1, 1) := by decide +kernel
theorem dL_law_1669 : decode cL_law 1669 = .ok (.aload_n 0, 1) := by decide +kernel
theorem dL_law_1670 : decode cL_law 1670 = .ok (.iload_n 3, 1) := by decide +kernel
theorem dL_law_1671 : decode cL_law 1671 = .ok (.iconst 1, 1) := by decide +kernel
theorem dL_law_1672 : decode cL_law 1672 = .ok (.iadd, 1) := by decide +kernel
theorem dL_law_1673 : decode cL_law 1673 = .ok (.iaload, 1) := by decide +kernel
theorem dL_law_1674 : decode cL_law 1674 = .ok (.aload_n 0, 1) := by decide +kernel
theorem dL_law_1675 : decode cL_law 1675 = .ok (.iload_n 3, 1) := by decide +kernel
theorem dL_law_1676 : decode cL_law 1676 = .ok (.iconst 2, 1) := by decide +kernel
theorem dL_law_1677 : decode cL_law 1677 = .ok (.iadd, 1) := by decide +kernel
theorem dL_law_1678 : decode cL_law 1678 = .ok (.iaload, 1) := by decide +kernel
theorem dL_law_1679 : decode cL_law 1679 = .ok (.invokevirtual 184, 3) := by decide +kernel
theorem dL_law_1682 : decode cL_law 1682 = .ok (.aload_n 2, 1) := by decide +kernel
theorem dL_law_1683 : decode cL_law 1683 = .ok (.aload_n 0, 1) := by decide +kernel
theorem dL_law_1684 : decode cL_law 1684 = .ok (.iload_n 3, 1) := by decide +kernel
theorem dL_law_1685 : decode cL_law 1685 = .ok (.iconst 1, 1) := by decide +kernel
theorem dL_law_1686 : decode cL_law 1686 = .ok (.iadd, 1) := by decide +kernel
theorem dL_law_1687 : decode cL_law 1687 = .ok (.iaload, 1) := by decide +kernel
theorem dL_law_1688 : decode cL_law 1688 = .ok (.aload_n 0, 1) := by decide +kernel
theorem dL_law_1689 : decode cL_law 1689 = .ok (.iload_n 3, 1) := by decide +kernel
theorem dL_law_1690 : decode cL_law 1690 = .ok (.iconst 2, 1) := by decide +kernel
theorem dL_law_1691 : decode cL_law 1691 = .ok (.iadd, 1) := by decide +kernel
theorem dL_law_1692 : decode cL_law 1692 = .ok (.iaload, 1) := by decide +kernel
theorem dL_law_1693 : decode cL_law 1693 = .ok (.invokevirtual 187, 3) := by decide +kernel
theorem dL_law_1696 : decode cL_law 1696 = .ok (.if_icmp .eq 254, 3) := by decide +kernel
theorem dL_law_1701 : decode cL_law 1701 = .ok (.aload_n 1, 1) := by decide +kernel
theorem dL_law_1702 : decode cL_law 1702 = .ok (.aload_n 0, 1) := by decide +kernel
theorem dL_law_1703 : decode cL_law 1703 = .ok (.iload_n 3, 1) := by decide +kernel
theorem dL_law_1704 : decode cL_law 1704 = .ok (.iconst 1, 1) := by decide +kernel
theorem dL_law_1705 : decode cL_law 1705 = .ok (.iadd, 1) := by decide +kernel
theorem dL_law_1706 : decode cL_law 1706 = .ok (.iaload, 1) := by decide +kernel
theorem dL_law_1707 : decode cL_law 1707 = .ok (.aload_n 0, 1) := by decide +kernel
theorem dL_law_1708 : decode cL_law 1708 = .ok (.iload_n 3, 1) := by decide +kernel
theorem dL_law_1709 : decode cL_law 1709 = .ok (.iconst 2, 1) := by decide +kernel
theorem dL_law_1710 : decode cL_law 1710 = .ok (.iadd, 1) := by decide +kernel
theorem dL_law_1711 : decode cL_law 1711 = .ok (.iaload, 1) := by decide +kernel
theorem dL_law_1712 : decode cL_law 1712 = .ok (.aload_n 0, 1) := by decide +kernel
theorem dL_law_1713 : decode cL_law 1713 = .ok (.iload_n 3, 1) := by decide +kernel
theorem dL_law_1714 : decode cL_law 1714 = .ok (.iconst 3, 1) := by decide +kernel
theorem dL_law_1715 : decode cL_law 1715 = .ok (.iadd, 1) := by decide +kernel
theorem dL_law_1716 : decode cL_law 1716 = .ok (.iaload, 1) := by decide +kernel
theorem dL_law_1717 : decode cL_law 1717 = .ok (.aload_n 0, 1) := by decide +kernel
theorem dL_law_1718 : decode cL_law 1718 = .ok (.iload_n 3, 1) := by decide +kernel
theorem dL_law_1719 : decode cL_law 1719 = .ok (.iconst 4, 1) := by decide +kernel
theorem dL_law_1720 : decode cL_law 1720 = .ok (.iadd, 1) := by decide +kernel
theorem dL_law_1721 : decode cL_law 1721 = .ok (.iaload, 1) := by decide +kernel
theorem dL_law_1722 : decode cL_law 1722 = .ok (.invokevirtual 188, 3) := by decide +kernel
theorem dL_law_1725 : decode cL_law 1725 = .ok (.aload_n 2, 1) := by decide +kernel
theorem dL_law_1726 : decode cL_law 1726 = .ok (.aload_n 0, 1) := by decide +kernel
theorem dL_law_1727 : decode cL_law 1727 = .ok (.iload_n 3, 1) := by decide +kernel
theorem dL_law_1728 : decode cL_law 1728 = .ok (.iconst 1, 1) := by decide +kernel
theorem dL_law_1729 : decode cL_law 1729 = .ok (.iadd, 1) := by decide +kernel
theorem dL_law_1730 : decode cL_law 1730 = .ok (.iaload, 1) := by decide +kernel
theorem dL_law_1731 : decode cL_law 1731 = .ok (.aload_n 0, 1) := by decide +kernel
theorem dL_law_1732 : decode cL_law 1732 = .ok (.iload_n 3, 1) := by decide +kernel
theorem dL_law_1733 : decode cL_law 1733 = .ok (.iconst 2, 1) := by decide +kernel
theorem dL_law_1734 : decode cL_law 1734 = .ok (.iadd, 1) := by decide +kernel
theorem dL_law_1735 : decode cL_law 1735 = .ok (.iaload, 1) := by decide +kernel
theorem dL_law_1736 : decode cL_law 1736 = .ok (.aload_n 0, 1) := by decide +kernel
theorem dL_law_1737 : decode cL_law 1737 = .ok (.iload_n 3, 1) := by decide +kernel
theorem dL_law_1738 : decode cL_law 1738 = .ok (.iconst 3, 1) := by decide +kernel
theorem dL_law_1739 : decode cL_law 1739 = .ok (.iadd, 1) := by decide +kernel
theorem dL_law_1740 : decode cL_law 1740 = .ok (.iaload, 1) := by decide +kernel
theorem dL_law_1741 : decode cL_law 1741 = .ok (.aload_n 0, 1) := by decide +kernel
theorem dL_law_1742 : decode cL_law 1742 = .ok (.iload_n 3, 1) := by decide +kernel
theorem dL_law_1743 : decode cL_law 1743 = .ok (.iconst 4, 1) := by decide +kernel
theorem dL_law_1744 : decode cL_law 1744 = .ok (.iadd, 1) := by decide +kernel
theorem dL_law_1745 : decode cL_law 1745 = .ok (.iaload, 1) := by decide +kernel
theorem dL_law_1746 : decode cL_law 1746 = .ok (.invokevirtual 191, 3) := by decide +kernel
theorem dL_law_1749 : decode cL_law 1749 = .ok (.if_icmp .eq 201, 3) := by decide +kernel
theorem dL_law_1754 : decode cL_law 1754 = .ok (.aload_n 1, 1) := by decide +kernel
theorem dL_law_1755 : decode cL_law 1755 = .ok (.aload_n 0, 1) := by decide +kernel
theorem dL_law_1756 : decode cL_law 1756 = .ok (.iload_n 3, 1) := by decide +kernel
theorem dL_law_1757 : decode cL_law 1757 = .ok (.iconst 1, 1) := by decide +kernel
theorem dL_law_1758 : decode cL_law 1758 = .ok (.iadd, 1) := by decide +kernel
theorem dL_law_1759 : decode cL_law 1759 = .ok (.iaload, 1) := by decide +kernel
theorem dL_law_1760 : decode cL_law 1760 = .ok (.aload_n 0, 1) := by decide +kernel
theorem dL_law_1761 : decode cL_law 1761 = .ok (.iload_n 3, 1) := by decide +kernel
theorem dL_law_1762 : decode cL_law 1762 = .ok (.iconst 2, 1) := by decide +kernel
theorem dL_law_1763 : decode cL_law 1763 = .ok (.iadd, 1) := by decide +kernel
theorem dL_law_1764 : decode cL_law 1764 = .ok (.iaload, 1) := by decide +kernel
theorem dL_law_1765 : decode cL_law 1765 = .ok (.ifCond .eq 7, 3) := by decide +kernel
theorem dL_law_1768 : decode cL_law 1768 = .ok (.iconst 1, 1) := by decide +kernel
theorem dL_law_1769 : decode cL_law 1769 = .ok (.goto 4, 3) := by decide +kernel
theorem dL_law_1772 : decode cL_law 1772 = .ok (.iconst 0, 1) := by decide +kernel
theorem dL_law_1773 : decode cL_law 1773 = .ok (.aload_n 0, 1) := by decide +kernel
theorem dL_law_1774 : decode cL_law 1774 = .ok (.iload_n 3, 1) := by decide +kernel
theorem dL_law_1775 : decode cL_law 1775 = .ok (.iconst 3, 1) := by decide +kernel
theorem dL_law_1776 : decode cL_law 1776 = .ok (.iadd, 1) := by decide +kernel
theorem dL_law_1777 : decode cL_law 1777 = .ok (.iaload, 1) := by decide +kernel
theorem dL_law_1778 : decode cL_law 1778 = .ok (.invokevirtual 192, 3) := by decide +kernel
theorem dL_law_1781 : decode cL_law 1781 = .ok (.aload_n 2, 1) := by decide +kernel
theorem dL_law_1782 : decode cL_law 1782 = .ok (.aload_n 0, 1) := by decide +kernel
theorem dL_law_1783 : decode cL_law 1783 = .ok (.iload_n 3, 1) := by decide +kernel
theorem dL_law_1784 : decode cL_law 1784 = .ok (.iconst 1, 1) := by decide +kernel
theorem dL_law_1785 : decode cL_law 1785 = .ok (.iadd, 1) := by decide +kernel
theorem dL_law_1786 : decode cL_law 1786 = .ok (.iaload, 1) := by decide +kernel
theorem dL_law_1787 : decode cL_law 1787 = .ok (.aload_n 0, 1) := by decide +kernel
theorem dL_law_1788 : decode cL_law 1788 = .ok (.iload_n 3, 1) := by decide +kernel
theorem dL_law_1789 : decode cL_law 1789 = .ok (.iconst 2, 1) := by decide +kernel
theorem dL_law_1790 : decode cL_law 1790 = .ok (.iadd, 1) := by decide +kernel
theorem dL_law_1791 : decode cL_law 1791 = .ok (.iaload, 1) := by decide +kernel
theorem dL_law_1792 : decode cL_law 1792 = .ok (.ifCond .eq 7, 3) := by decide +kernel
theorem dL_law_1795 : decode cL_law 1795 = .ok (.iconst 1, 1) := by decide +kernel
theorem dL_law_1796 : decode cL_law 1796 = .ok (.goto 4, 3) := by decide +kernel
theorem dL_law_1799 : decode cL_law 1799 = .ok (.iconst 0, 1) := by decide +kernel
theorem dL_law_1800 : decode cL_law 1800 = .ok (.aload_n 0, 1) := by decide +kernel
theorem dL_law_1801 : decode cL_law 1801 = .ok (.iload_n 3, 1) := by decide +kernel
theorem dL_law_1802 : decode cL_law 1802 = .ok (.iconst 3, 1) := by decide +kernel
theorem dL_law_1803 : decode cL_law 1803 = .ok (.iadd, 1) := by decide +kernel
theorem dL_law_1804 : decode cL_law 1804 = .ok (.iaload, 1) := by decide +kernel
theorem dL_law_1805 : decode cL_law 1805 = .ok (.invokevirtual 196, 3) := by decide +kernel
theorem dL_law_1808 : decode cL_law 1808 = .ok (.if_icmp .eq 142, 3) := by decide +kernel
theorem dL_law_1813 : decode cL_law 1813 = .ok (.aload_n 1, 1) := by decide +kernel
theorem dL_law_1814 : decode cL_law 1814 = .ok (.aload_n 0, 1) := by decide +kernel
theorem dL_law_1815 : decode cL_law 1815 = .ok (.iload_n 3, 1) := by decide +kernel
theorem dL_law_1816 : decode cL_law 1816 = .ok (.iconst 1, 1) := by decide +kernel
theorem dL_law_1817 : decode cL_law 1817 = .ok (.iadd, 1) := by decide +kernel
theorem dL_law_1818 : decode cL_law 1818 = .ok (.iaload, 1) := by decide +kernel
theorem dL_law_1819 : decode cL_law 1819 = .ok (.aload_n 0, 1) := by decide +kernel
theorem dL_law_1820 : decode cL_law 1820 = .ok (.iload_n 3, 1) := by decide +kernel
theorem dL_law_1821 : decode cL_law 1821 = .ok (.iconst 2, 1) := by decide +kernel
theorem dL_law_1822 : decode cL_law 1822 = .ok (.iadd, 1) := by decide +kernel
theorem dL_law_1823 : decode cL_law 1823 = .ok (.iaload, 1) := by decide +kernel
theorem dL_law_1824 : decode cL_law 1824 = .ok (.invokevirtual 197, 3) := by decide +kernel
theorem dL_law_1827 : decode cL_law 1827 = .ok (.aload_n 2, 1) := by decide +kernel
theorem dL_law_1828 : decode cL_law 1828 = .ok (.aload_n 0, 1) := by decide +kernel
theorem dL_law_1829 : decode cL_law 1829 = .ok (.iload_n 3, 1) := by decide +kernel
theorem dL_law_1830 : decode cL_law 1830 = .ok (.iconst 1, 1) := by decide +kernel
theorem dL_law_1831 : decode cL_law 1831 = .ok (.iadd, 1) := by decide +kernel
theorem dL_law_1832 : decode cL_law 1832 = .ok (.iaload, 1) := by decide +kernel
theorem dL_law_1833 : decode cL_law 1833 = .ok (.aload_n 0, 1) := by decide +kernel
theorem dL_law_1834 : decode cL_law 1834 = .ok (.iload_n 3, 1) := by decide +kernel
theorem dL_law_1835 : decode cL_law 1835 = .ok (.iconst 2, 1) := by decide +kernel
theorem dL_law_1836 : decode cL_law 1836 = .ok (.iadd, 1) := by decide +kernel
theorem dL_law_1837 : decode cL_law 1837 = .ok (.iaload, 1) := by decide +kernel
theorem dL_law_1838 : decode cL_law 1838 = .ok (.invokevirtual 200, 3) := by decide +kernel
theorem dL_law_1841 : decode cL_law 1841 = .ok (.if_icmp .eq 109, 3) := by decide +kernel
theorem dL_law_1846 : decode cL_law 1846 = .ok (.aload_n 1, 1) := by decide +kernel
theorem dL_law_1847 : decode cL_law 1847 = .ok (.aload_n 0, 1) := by decide +kernel
theorem dL_law_1848 : decode cL_law 1848 = .ok (.iload_n 3, 1) := by decide +kernel
theorem dL_law_1849 : decode cL_law 1849 = .ok (.iconst 1, 1) := by decide +kernel
theorem dL_law_1850 : decode cL_law 1850 = .ok (.iadd, 1) := by decide +kernel
theorem dL_law_1851 : decode cL_law 1851 = .ok (.iaload, 1) := by decide +kernel
theorem dL_law_1852 : decode cL_law 1852 = .ok (.invokevirtual 201, 3) := by decide +kernel
theorem dL_law_1855 : decode cL_law 1855 = .ok (.aload_n 2, 1) := by decide +kernel
theorem dL_law_1856 : decode cL_law 1856 = .ok (.aload_n 0, 1) := by decide +kernel
theorem dL_law_1857 : decode cL_law 1857 = .ok (.iload_n 3, 1) := by decide +kernel
theorem dL_law_1858 : decode cL_law 1858 = .ok (.iconst 1, 1) := by decide +kernel
theorem dL_law_1859 : decode cL_law 1859 = .ok (.iadd, 1) := by decide +kernel
theorem dL_law_1860 : decode cL_law 1860 = .ok (.iaload, 1) := by decide +kernel
theorem dL_law_1861 : decode cL_law 1861 = .ok (.invokevirtual 205, 3) := by decide +kernel
theorem dL_law_1864 : decode cL_law 1864 = .ok (.lcmp, 1) := by decide +kernel
theorem dL_law_1865 : decode cL_law 1865 = .ok (.ifCond .eq 85, 3) := by decide +kernel
theorem dL_law_1870 : decode cL_law 1870 = .ok (.aload_n 1, 1) := by decide +kernel
theorem dL_law_1871 : decode cL_law 1871 = .ok (.invokevirtual 206, 3) := by decide +kernel
theorem dL_law_1874 : decode cL_law 1874 = .ok (.aload_n 2, 1) := by decide +kernel
theorem dL_law_1875 : decode cL_law 1875 = .ok (.invokevirtual 210, 3) := by decide +kernel
theorem dL_law_1878 : decode cL_law 1878 = .ok (.lcmp, 1) := by decide +kernel
theorem dL_law_1879 : decode cL_law 1879 = .ok (.ifCond .eq 71, 3) := by decide +kernel
theorem dL_law_1884 : decode cL_law 1884 = .ok (.aload_n 1, 1) := by decide +kernel
theorem dL_law_1885 : decode cL_law 1885 = .ok (.aload_n 0, 1) := by decide +kernel
theorem dL_law_1886 : decode cL_law 1886 = .ok (.iload_n 3, 1) := by decide +kernel
theorem dL_law_1887 : decode cL_law 1887 = .ok (.iconst 1, 1) := by decide +kernel
theorem dL_law_1888 : decode cL_law 1888 = .ok (.iadd, 1) := by decide +kernel
theorem dL_law_1889 : decode cL_law 1889 = .ok (.iaload, 1) := by decide +kernel
theorem dL_law_1890 : decode cL_law 1890 = .ok (.aload_n 0, 1) := by decide +kernel
theorem dL_law_1891 : decode cL_law 1891 = .ok (.iload_n 3, 1) := by decide +kernel
theorem dL_law_1892 : decode cL_law 1892 = .ok (.iconst 2, 1) := by decide +kernel
theorem dL_law_1893 : decode cL_law 1893 = .ok (.iadd, 1) := by decide +kernel
theorem dL_law_1894 : decode cL_law 1894 = .ok (.iaload, 1) := by decide +kernel
theorem dL_law_1895 : decode cL_law 1895 = .ok (.aload_n 0, 1) := by decide +kernel
theorem dL_law_1896 : decode cL_law 1896 = .ok (.iload_n 3, 1) := by decide +kernel
theorem dL_law_1897 : decode cL_law 1897 = .ok (.iconst 3, 1) := by decide +kernel
theorem dL_law_1898 : decode cL_law 1898 = .ok (.iadd, 1) := by decide +kernel
theorem dL_law_1899 : decode cL_law 1899 = .ok (.iaload, 1) := by decide +kernel
theorem dL_law_1900 : decode cL_law 1900 = .ok (.invokevirtual 211, 3) := by decide +kernel
theorem dL_law_1903 : decode cL_law 1903 = .ok (.aload_n 2, 1) := by decide +kernel
theorem dL_law_1904 : decode cL_law 1904 = .ok (.aload_n 0, 1) := by decide +kernel
theorem dL_law_1905 : decode cL_law 1905 = .ok (.iload_n 3, 1) := by decide +kernel
theorem dL_law_1906 : decode cL_law 1906 = .ok (.iconst 1, 1) := by decide +kernel
theorem dL_law_1907 : decode cL_law 1907 = .ok (.iadd, 1) := by decide +kernel
theorem dL_law_1908 : decode cL_law 1908 = .ok (.iaload, 1) := by decide +kernel
theorem dL_law_1909 : decode cL_law 1909 = .ok (.aload_n 0, 1) := by decide +kernel
theorem dL_law_1910 : decode cL_law 1910 = .ok (.iload_n 3, 1) := by decide +kernel
theorem dL_law_1911 : decode cL_law 1911 = .ok (.iconst 2, 1) := by decide +kernel
theorem dL_law_1912 : decode cL_law 1912 = .ok (.iadd, 1) := by decide +kernel
theorem dL_law_1913 : decode cL_law 1913 = .ok (.iaload, 1) := by decide +kernel
theorem dL_law_1914 : decode cL_law 1914 = .ok (.aload_n 0, 1) := by decide +kernel
theorem dL_law_1915 : decode cL_law 1915 = .ok (.iload_n 3, 1) := by decide +kernel
theorem dL_law_1916 : decode cL_law 1916 = .ok (.iconst 3, 1) := by decide +kernel
theorem dL_law_1917 : decode cL_law 1917 = .ok (.iadd, 1) := by decide +kernel
theorem dL_law_1918 : decode cL_law 1918 = .ok (.iaload, 1) := by decide +kernel
theorem dL_law_1919 : decode cL_law 1919 = .ok (.invokevirtual 214, 3) := by decide +kernel
theorem dL_law_1922 : decode cL_law 1922 = .ok (.if_icmp .eq 28, 3) := by decide +kernel
theorem dL_law_1927 : decode cL_law 1927 = .ok (.aload_n 1, 1) := by decide +kernel
theorem dL_law_1928 : decode cL_law 1928 = .ok (.aload_n 0, 1) := by decide +kernel
theorem dL_law_1929 : decode cL_law 1929 = .ok (.iload_n 3, 1) := by decide +kernel
theorem dL_law_1930 : decode cL_law 1930 = .ok (.iconst 1, 1) := by decide +kernel
theorem dL_law_1931 : decode cL_law 1931 = .ok (.iadd, 1) := by decide +kernel
theorem dL_law_1932 : decode cL_law 1932 = .ok (.iaload, 1) := by decide +kernel
theorem dL_law_1933 : decode cL_law 1933 = .ok (.invokevirtual 215, 3) := by decide +kernel
theorem dL_law_1936 : decode cL_law 1936 = .ok (.aload_n 2, 1) := by decide +kernel
theorem dL_law_1937 : decode cL_law 1937 = .ok (.aload_n 0, 1) := by decide +kernel
theorem dL_law_1938 : decode cL_law 1938 = .ok (.iload_n 3, 1) := by decide +kernel
theorem dL_law_1939 : decode cL_law 1939 = .ok (.iconst 1, 1) := by decide +kernel
theorem dL_law_1940 : decode cL_law 1940 = .ok (.iadd, 1) := by decide +kernel
theorem dL_law_1941 : decode cL_law 1941 = .ok (.iaload, 1) := by decide +kernel
theorem dL_law_1942 : decode cL_law 1942 = .ok (.invokevirtual 218, 3) := by decide +kernel
theorem dL_law_1945 : decode cL_law 1945 = .ok (.if_icmp .eq 5, 3) := by decide +kernel
set_option maxRecDepth 100000 in
theorem pq886 : Cond.methodLink RL 172 yX6_island ∈ pw := pw_mem (i := 886) (by decide +kernel) rfl
set_option maxRecDepth 100000 in
theorem pq887 : Cond.instanceMethod yX6_island ∈ pw := pw_mem (i := 887) (by decide +kernel) rfl
set_option maxRecDepth 100000 in
theorem pq888 : Cond.selects RX6 yX6_island yX6_island ∈ pw := pw_mem (i := 888) (by decide +kernel) rfl
set_option maxRecDepth 100000 in
theorem pq889 : Cond.code yX6_island cX6_island 5 (some .int) ∈ pw := pw_mem (i := 889) (by rfl) rfl
set_option maxRecDepth 100000 in
theorem pq894 : Cond.methodLink RL 176 yX6_shifts ∈ pw := pw_mem (i := 894) (by decide +kernel) rfl
set_option maxRecDepth 100000 in
theorem pq895 : Cond.instanceMethod yX6_shifts ∈ pw := pw_mem (i := 895) (by decide +kernel) rfl
set_option maxRecDepth 100000 in
theorem pq896 : Cond.selects RX6 yX6_shifts yX6_shifts ∈ pw := pw_mem (i := 896) (by decide +kernel) rfl
set_option maxRecDepth 100000 in
theorem pq897 : Cond.code yX6_shifts cX6_shifts 8 (some .int) ∈ pw := pw_mem (i := 897) (by rfl) rfl
set_option maxRecDepth 100000 in
theorem pq899 : Cond.methodLink RL 180 yX6_like ∈ pw := pw_mem (i := 899) (by decide +kernel) rfl
set_option maxRecDepth 100000 in
theorem pq900 : Cond.instanceMethod yX6_like ∈ pw := pw_mem (i := 900) (by decide +kernel) rfl
set_option maxRecDepth 100000 in
theorem pq901 : Cond.selects RX6 yX6_like yX6_like ∈ pw := pw_mem (i := 901) (by decide +kernel) rfl
set_option maxRecDepth 100000 in
theorem pq902 : Cond.code yX6_like cX6_like 4 (some .int) ∈ pw := pw_mem (i := 902) (by rfl) rfl
set_option maxRecDepth 100000 in
theorem pq908 : Cond.methodLink RL 184 yX6_letter ∈ pw := pw_mem (i := 908) (by decide +kernel) rfl
set_option maxRecDepth 100000 in
theorem pq909 : Cond.instanceMethod yX6_letter ∈ pw := pw_mem (i := 909) (by decide +kernel) rfl
set_option maxRecDepth 100000 in
theorem pq910 : Cond.selects RX6 yX6_letter yX6_letter ∈ pw := pw_mem (i := 910) (by decide +kernel) rfl
set_option maxRecDepth 100000 in
theorem pq911 : Cond.code yX6_letter cX6_letter 7 (some .int) ∈ pw := pw_mem (i := 911) (by rfl) rfl
set_option maxRecDepth 100000 in
theorem pq912 : Cond.methodLink RL 188 yX6_dense ∈ pw := pw_mem (i := 912) (by decide +kernel) rfl
set_option maxRecDepth 100000 in
theorem pq913 : Cond.instanceMethod yX6_dense ∈ pw := pw_mem (i := 913) (by decide +kernel) rfl
set_option maxRecDepth 100000 in
theorem pq914 : Cond.selects RX6 yX6_dense yX6_dense ∈ pw := pw_mem (i := 914) (by decide +kernel) rfl
set_option maxRecDepth 100000 in
theorem pq915 : Cond.code yX6_dense cX6_dense 12 (some .int) ∈ pw := pw_mem (i := 915) (by rfl) rfl
set_option maxRecDepth 100000 in
theorem pq920 : Cond.methodLink RL 192 yX6_dots ∈ pw := pw_mem (i := 920) (by decide +kernel) rfl
set_option maxRecDepth 100000 in
theorem pq921 : Cond.instanceMethod yX6_dots ∈ pw := pw_mem (i := 921) (by decide +kernel) rfl
set_option maxRecDepth 100000 in
theorem pq922 : Cond.selects RX6 yX6_dots yX6_dots ∈ pw := pw_mem (i := 922) (by decide +kernel) rfl
set_option maxRecDepth 100000 in
theorem pq923 : Cond.code yX6_dots cX6_dots 5 (some .int) ∈ pw := pw_mem (i := 923) (by rfl) rfl
set_option maxRecDepth 100000 in
theorem pq924 : Cond.methodLink RL 197 yX6_spread ∈ pw := pw_mem (i := 924) (by decide +kernel) rfl
set_option maxRecDepth 100000 in
theorem pq925 : Cond.instanceMethod yX6_spread ∈ pw := pw_mem (i := 925) (by decide +kernel) rfl
set_option maxRecDepth 100000 in
theorem pq926 : Cond.selects RX6 yX6_spread yX6_spread ∈ pw := pw_mem (i := 926) (by decide +kernel) rfl
set_option maxRecDepth 100000 in
theorem pq927 : Cond.code yX6_spread cX6_spread 3 (some .int) ∈ pw := pw_mem (i := 927) (by rfl) rfl
set_option maxRecDepth 100000 in
theorem pq945 : Cond.methodLink RL 201 yX6_share ∈ pw := pw_mem (i := 945) (by decide +kernel) rfl
set_option maxRecDepth 100000 in
theorem pq946 : Cond.instanceMethod yX6_share ∈ pw := pw_mem (i := 946) (by decide +kernel) rfl
set_option maxRecDepth 100000 in
theorem pq947 : Cond.selects RX6 yX6_share yX6_share ∈ pw := pw_mem (i := 947) (by decide +kernel) rfl
set_option maxRecDepth 100000 in
theorem pq948 : Cond.code yX6_share cX6_share 3 (some .long) ∈ pw := pw_mem (i := 948) (by rfl) rfl
set_option maxRecDepth 100000 in
theorem pq954 : Cond.methodLink RL 211 yX6_alike ∈ pw := pw_mem (i := 954) (by decide +kernel) rfl
set_option maxRecDepth 100000 in
theorem pq955 : Cond.instanceMethod yX6_alike ∈ pw := pw_mem (i := 955) (by decide +kernel) rfl
set_option maxRecDepth 100000 in
theorem pq956 : Cond.selects RX6 yX6_alike yX6_alike ∈ pw := pw_mem (i := 956) (by decide +kernel) rfl
set_option maxRecDepth 100000 in
theorem pq957 : Cond.code yX6_alike cX6_alike 4 (some .int) ∈ pw := pw_mem (i := 957) (by rfl) rfl
set_option maxRecDepth 100000 in
theorem pq1040 : Cond.methodLink RL 152 yX6_apart ∈ pw := pw_mem (i := 1040) (by decide +kernel) rfl
set_option maxRecDepth 100000 in
theorem pq1041 : Cond.instanceMethod yX6_apart ∈ pw := pw_mem (i := 1041) (by decide +kernel) rfl
set_option maxRecDepth 100000 in
theorem pq1042 : Cond.selects RX6 yX6_apart yX6_apart ∈ pw := pw_mem (i := 1042) (by decide +kernel) rfl
set_option maxRecDepth 100000 in
theorem pq1043 : Cond.code yX6_apart cX6_apart 4 (some .int) ∈ pw := pw_mem (i := 1043) (by rfl) rfl
set_option maxRecDepth 100000 in
theorem pq1049 : Cond.methodLink RL 156 yX6_best ∈ pw := pw_mem (i := 1049) (by decide +kernel) rfl
set_option maxRecDepth 100000 in
theorem pq1050 : Cond.instanceMethod yX6_best ∈ pw := pw_mem (i := 1050) (by decide +kernel) rfl
set_option maxRecDepth 100000 in
theorem pq1051 : Cond.selects RX6 yX6_best yX6_best ∈ pw := pw_mem (i := 1051) (by decide +kernel) rfl
set_option maxRecDepth 100000 in
theorem pq1052 : Cond.code yX6_best cX6_best 4 (some .int) ∈ pw := pw_mem (i := 1052) (by rfl) rfl
set_option maxRecDepth 100000 in
theorem pq1064 : Cond.methodLink RL 160 yX6_slope ∈ pw := pw_mem (i := 1064) (by decide +kernel) rfl
set_option maxRecDepth 100000 in
theorem pq1065 : Cond.instanceMethod yX6_slope ∈ pw := pw_mem (i := 1065) (by decide +kernel) rfl
set_option maxRecDepth 100000 in
theorem pq1066 : Cond.selects RX6 yX6_slope yX6_slope ∈ pw := pw_mem (i := 1066) (by decide +kernel) rfl
set_option maxRecDepth 100000 in
theorem pq1067 : Cond.code yX6_slope cX6_slope 6 (some .int) ∈ pw := pw_mem (i := 1067) (by rfl) rfl
set_option maxRecDepth 100000 in
theorem pq1069 : Cond.methodLink RL 164 yX6_ray ∈ pw := pw_mem (i := 1069) (by decide +kernel) rfl
set_option maxRecDepth 100000 in
theorem pq1070 : Cond.instanceMethod yX6_ray ∈ pw := pw_mem (i := 1070) (by decide +kernel) rfl
set_option maxRecDepth 100000 in
theorem pq1071 : Cond.selects RX6 yX6_ray yX6_ray ∈ pw := pw_mem (i := 1071) (by decide +kernel) rfl
set_option maxRecDepth 100000 in
theorem pq1072 : Cond.code yX6_ray cX6_ray 10 (some .int) ∈ pw := pw_mem (i := 1072) (by rfl) rfl
set_option maxRecDepth 100000 in
theorem pq1073 : Cond.methodLink RL 168 yX6_seen ∈ pw := pw_mem (i := 1073) (by decide +kernel) rfl
set_option maxRecDepth 100000 in
theorem pq1074 : Cond.instanceMethod yX6_seen ∈ pw := pw_mem (i := 1074) (by decide +kernel) rfl
set_option maxRecDepth 100000 in
theorem pq1075 : Cond.selects RX6 yX6_seen yX6_seen ∈ pw := pw_mem (i := 1075) (by decide +kernel) rfl
set_option maxRecDepth 100000 in
theorem pq1076 : Cond.code yX6_seen cX6_seen 10 (some .int) ∈ pw := pw_mem (i := 1076) (by rfl) rfl
set_option maxRecDepth 100000 in
theorem pq1095 : Cond.methodLink RL 206 yX6_digest ∈ pw := pw_mem (i := 1095) (by decide +kernel) rfl
set_option maxRecDepth 100000 in
theorem pq1096 : Cond.instanceMethod yX6_digest ∈ pw := pw_mem (i := 1096) (by decide +kernel) rfl
set_option maxRecDepth 100000 in
theorem pq1097 : Cond.selects RX6 yX6_digest yX6_digest ∈ pw := pw_mem (i := 1097) (by decide +kernel) rfl
set_option maxRecDepth 100000 in
theorem pq1098 : Cond.code yX6_digest cX6_digest 6 (some .long) ∈ pw := pw_mem (i := 1098) (by rfl) rfl
set_option maxRecDepth 100000 in
theorem pq1101 : Cond.methodLink RL 215 yX6_count ∈ pw := pw_mem (i := 1101) (by decide +kernel) rfl
set_option maxRecDepth 100000 in
theorem pq1102 : Cond.instanceMethod yX6_count ∈ pw := pw_mem (i := 1102) (by decide +kernel) rfl
set_option maxRecDepth 100000 in
theorem pq1103 : Cond.selects RX6 yX6_count yX6_count ∈ pw := pw_mem (i := 1103) (by decide +kernel) rfl
set_option maxRecDepth 100000 in
theorem pq1104 : Cond.code yX6_count cX6_count 2 (some .int) ∈ pw := pw_mem (i := 1104) (by rfl) rfl
set_option maxRecDepth 100000 in
theorem pq1629 : Cond.methodLink RL 155 yX7_apart ∈ pw := pw_mem (i := 1629) (by decide +kernel) rfl
set_option maxRecDepth 100000 in
theorem pq1630 : Cond.instanceMethod yX7_apart ∈ pw := pw_mem (i := 1630) (by decide +kernel) rfl
set_option maxRecDepth 100000 in
theorem pq1631 : Cond.selects RX7 yX7_apart yX7_apart ∈ pw := pw_mem (i := 1631) (by decide +kernel) rfl
set_option maxRecDepth 100000 in
theorem pq1632 : Cond.code yX7_apart cX7_apart 8 (some .int) ∈ pw := pw_mem (i := 1632) (by rfl) rfl
set_option maxRecDepth 100000 in
theorem pq1633 : Cond.methodLink RL 159 yX7_best ∈ pw := pw_mem (i := 1633) (by decide +kernel) rfl
set_option maxRecDepth 100000 in
theorem pq1634 : Cond.instanceMethod yX7_best ∈ pw := pw_mem (i := 1634) (by decide +kernel) rfl
set_option maxRecDepth 100000 in
theorem pq1635 : Cond.selects RX7 yX7_best yX7_best ∈ pw := pw_mem (i := 1635) (by decide +kernel) rfl
set_option maxRecDepth 100000 in
theorem pq1636 : Cond.code yX7_best cX7_best 10 (some .int) ∈ pw := pw_mem (i := 1636) (by rfl) rfl
set_option maxRecDepth 100000 in
theorem pq1637 : Cond.methodLink RL 163 yX7_slope ∈ pw := pw_mem (i := 1637) (by decide +kernel) rfl
set_option maxRecDepth 100000 in
theorem pq1638 : Cond.instanceMethod yX7_slope ∈ pw := pw_mem (i := 1638) (by decide +kernel) rfl
set_option maxRecDepth 100000 in
theorem pq1639 : Cond.selects RX7 yX7_slope yX7_slope ∈ pw := pw_mem (i := 1639) (by decide +kernel) rfl
set_option maxRecDepth 100000 in
theorem pq1640 : Cond.code yX7_slope cX7_slope 4 (some .int) ∈ pw := pw_mem (i := 1640) (by rfl) rfl
set_option maxRecDepth 100000 in
theorem pq1642 : Cond.methodLink RL 167 yX7_ray ∈ pw := pw_mem (i := 1642) (by decide +kernel) rfl
set_option maxRecDepth 100000 in
theorem pq1643 : Cond.instanceMethod yX7_ray ∈ pw := pw_mem (i := 1643) (by decide +kernel) rfl
set_option maxRecDepth 100000 in
theorem pq1644 : Cond.selects RX7 yX7_ray yX7_ray ∈ pw := pw_mem (i := 1644) (by decide +kernel) rfl
set_option maxRecDepth 100000 in
theorem pq1645 : Cond.code yX7_ray cX7_ray 9 (some .int) ∈ pw := pw_mem (i := 1645) (by rfl) rfl
set_option maxRecDepth 100000 in
theorem pq1649 : Cond.methodLink RL 171 yX7_seen ∈ pw := pw_mem (i := 1649) (by decide +kernel) rfl
set_option maxRecDepth 100000 in
theorem pq1650 : Cond.instanceMethod yX7_seen ∈ pw := pw_mem (i := 1650) (by decide +kernel) rfl
set_option maxRecDepth 100000 in
theorem pq1651 : Cond.selects RX7 yX7_seen yX7_seen ∈ pw := pw_mem (i := 1651) (by decide +kernel) rfl
set_option maxRecDepth 100000 in
theorem pq1652 : Cond.code yX7_seen cX7_seen 11 (some .int) ∈ pw := pw_mem (i := 1652) (by rfl) rfl
set_option maxRecDepth 100000 in
theorem pq1653 : Cond.methodLink RL 175 yX7_island ∈ pw := pw_mem (i := 1653) (by decide +kernel) rfl
set_option maxRecDepth 100000 in
theorem pq1654 : Cond.instanceMethod yX7_island ∈ pw := pw_mem (i := 1654) (by decide +kernel) rfl
set_option maxRecDepth 100000 in
theorem pq1655 : Cond.selects RX7 yX7_island yX7_island ∈ pw := pw_mem (i := 1655) (by decide +kernel) rfl
set_option maxRecDepth 100000 in
theorem pq1656 : Cond.code yX7_island cX7_island 11 (some .int) ∈ pw := pw_mem (i := 1656) (by rfl) rfl
set_option maxRecDepth 100000 in
theorem pq1658 : Cond.methodLink RL 179 yX7_shifts ∈ pw := pw_mem (i := 1658) (by decide +kernel) rfl
set_option maxRecDepth 100000 in
theorem pq1659 : Cond.instanceMethod yX7_shifts ∈ pw := pw_mem (i := 1659) (by decide +kernel) rfl
set_option maxRecDepth 100000 in
theorem pq1660 : Cond.selects RX7 yX7_shifts yX7_shifts ∈ pw := pw_mem (i := 1660) (by decide +kernel) rfl
set_option maxRecDepth 100000 in
theorem pq1661 : Cond.code yX7_shifts cX7_shifts 6 (some .int) ∈ pw := pw_mem (i := 1661) (by rfl) rfl
set_option maxRecDepth 100000 in
theorem pq1666 : Cond.methodLink RL 183 yX7_like ∈ pw := pw_mem (i := 1666) (by decide +kernel) rfl
set_option maxRecDepth 100000 in
theorem pq1667 : Cond.instanceMethod yX7_like ∈ pw := pw_mem (i := 1667) (by decide +kernel) rfl
set_option maxRecDepth 100000 in
theorem pq1668 : Cond.selects RX7 yX7_like yX7_like ∈ pw := pw_mem (i := 1668) (by decide +kernel) rfl
set_option maxRecDepth 100000 in
theorem pq1669 : Cond.code yX7_like cX7_like 4 (some .int) ∈ pw := pw_mem (i := 1669) (by rfl) rfl
set_option maxRecDepth 100000 in
theorem pq1674 : Cond.methodLink RL 187 yX7_letter ∈ pw := pw_mem (i := 1674) (by decide +kernel) rfl
set_option maxRecDepth 100000 in
theorem pq1675 : Cond.instanceMethod yX7_letter ∈ pw := pw_mem (i := 1675) (by decide +kernel) rfl
set_option maxRecDepth 100000 in
theorem pq1676 : Cond.selects RX7 yX7_letter yX7_letter ∈ pw := pw_mem (i := 1676) (by decide +kernel) rfl
set_option maxRecDepth 100000 in
theorem pq1677 : Cond.code yX7_letter cX7_letter 5 (some .int) ∈ pw := pw_mem (i := 1677) (by rfl) rfl
set_option maxRecDepth 100000 in
theorem pq1678 : Cond.methodLink RL 191 yX7_dense ∈ pw := pw_mem (i := 1678) (by decide +kernel) rfl
set_option maxRecDepth 100000 in
theorem pq1679 : Cond.instanceMethod yX7_dense ∈ pw := pw_mem (i := 1679) (by decide +kernel) rfl
set_option maxRecDepth 100000 in
theorem pq1680 : Cond.selects RX7 yX7_dense yX7_dense ∈ pw := pw_mem (i := 1680) (by decide +kernel) rfl
set_option maxRecDepth 100000 in
theorem pq1681 : Cond.code yX7_dense cX7_dense 11 (some .int) ∈ pw := pw_mem (i := 1681) (by rfl) rfl
set_option maxRecDepth 100000 in
theorem pq1686 : Cond.methodLink RL 196 yX7_dots ∈ pw := pw_mem (i := 1686) (by decide +kernel) rfl
set_option maxRecDepth 100000 in
theorem pq1687 : Cond.instanceMethod yX7_dots ∈ pw := pw_mem (i := 1687) (by decide +kernel) rfl
set_option maxRecDepth 100000 in
theorem pq1688 : Cond.selects RX7 yX7_dots yX7_dots ∈ pw := pw_mem (i := 1688) (by decide +kernel) rfl
set_option maxRecDepth 100000 in
theorem pq1689 : Cond.code yX7_dots cX7_dots 4 (some .int) ∈ pw := pw_mem (i := 1689) (by rfl) rfl
set_option maxRecDepth 100000 in
theorem pq1690 : Cond.methodLink RL 200 yX7_spread ∈ pw := pw_mem (i := 1690) (by decide +kernel) rfl
set_option maxRecDepth 100000 in
theorem pq1691 : Cond.instanceMethod yX7_spread ∈ pw := pw_mem (i := 1691) (by decide +kernel) rfl
set_option maxRecDepth 100000 in
theorem pq1692 : Cond.selects RX7 yX7_spread yX7_spread ∈ pw := pw_mem (i := 1692) (by decide +kernel) rfl
set_option maxRecDepth 100000 in
theorem pq1693 : Cond.code yX7_spread cX7_spread 6 (some .int) ∈ pw := pw_mem (i := 1693) (by rfl) rfl
set_option maxRecDepth 100000 in
theorem pq1698 : Cond.methodLink RL 205 yX7_share ∈ pw := pw_mem (i := 1698) (by decide +kernel) rfl
set_option maxRecDepth 100000 in
theorem pq1699 : Cond.instanceMethod yX7_share ∈ pw := pw_mem (i := 1699) (by decide +kernel) rfl
set_option maxRecDepth 100000 in
theorem pq1700 : Cond.selects RX7 yX7_share yX7_share ∈ pw := pw_mem (i := 1700) (by decide +kernel) rfl
set_option maxRecDepth 100000 in
theorem pq1701 : Cond.code yX7_share cX7_share 2 (some .long) ∈ pw := pw_mem (i := 1701) (by rfl) rfl
set_option maxRecDepth 100000 in
theorem pq1713 : Cond.methodLink RL 210 yX7_digest ∈ pw := pw_mem (i := 1713) (by decide +kernel) rfl
set_option maxRecDepth 100000 in
theorem pq1714 : Cond.instanceMethod yX7_digest ∈ pw := pw_mem (i := 1714) (by decide +kernel) rfl
set_option maxRecDepth 100000 in
theorem pq1715 : Cond.selects RX7 yX7_digest yX7_digest ∈ pw := pw_mem (i := 1715) (by decide +kernel) rfl
set_option maxRecDepth 100000 in
theorem pq1716 : Cond.code yX7_digest cX7_digest 5 (some .long) ∈ pw := pw_mem (i := 1716) (by rfl) rfl
set_option maxRecDepth 100000 in
theorem pq1720 : Cond.methodLink RL 214 yX7_alike ∈ pw := pw_mem (i := 1720) (by decide +kernel) rfl
set_option maxRecDepth 100000 in
theorem pq1721 : Cond.instanceMethod yX7_alike ∈ pw := pw_mem (i := 1721) (by decide +kernel) rfl
set_option maxRecDepth 100000 in
theorem pq1722 : Cond.selects RX7 yX7_alike yX7_alike ∈ pw := pw_mem (i := 1722) (by decide +kernel) rfl
set_option maxRecDepth 100000 in
theorem pq1723 : Cond.code yX7_alike cX7_alike 4 (some .int) ∈ pw := pw_mem (i := 1723) (by rfl) rfl
set_option maxRecDepth 100000 in
theorem pq1724 : Cond.methodLink RL 218 yX7_count ∈ pw := pw_mem (i := 1724) (by decide +kernel) rfl
set_option maxRecDepth 100000 in
theorem pq1725 : Cond.instanceMethod yX7_count ∈ pw := pw_mem (i := 1725) (by decide +kernel) rfl
set_option maxRecDepth 100000 in
theorem pq1726 : Cond.selects RX7 yX7_count yX7_count ∈ pw := pw_mem (i := 1726) (by decide +kernel) rfl
set_option maxRecDepth 100000 in
theorem pq1727 : Cond.code yX7_count cX7_count 2 (some .int) ∈ pw := pw_mem (i := 1727) (by rfl) rfl
set_option maxHeartbeats 4000000 in
set_option maxRecDepth 100000 in
theorem lw_case33 {p : Program} {e : Env} {s : State} {m : MethodId} {below : List Frame} {meth : Method} {c : Code} (l : Launch) {b : Nat} {xs : Nat → Int32} {dC : Nat → ClassId} {dI : Nat → Nat → Nat} (C0 : lw_At p s m meth c b 6 xs) {x0 tp nw dr rd sc sk fl ps sh nm nb dm db ss m0 mnw mhd mas mps msf mdt mhdd masd mpsd msfd mkp mtp mld mmd men mil mqu mbx : Nat} {kB kF kG kI kI2 kI3 kI4 kI5 kJ kJ2 kJ3 kJ4 kJ5 kZ kY : ClassId} {H : Heap} {locs : List Loc} {ls : Array Slot} (hK : va_K (dC, dI) vwCl [(kB, .byte), (kF, .object RX1), (kG, .object RX1), (kI, .int), (kI2, .int), (kI3, .int), (kI4, .int), (kI5, .int), (kJ, .long), (kJ2, .long), (kJ3, .long), (kJ4, .long), (kJ5, .long), (kZ, .boolean), (kY, .byte)] s) (hP : va_P (dC, dI) vwCl [(x0, .inr (6, [.ref tp, .int 0, .ref nw, .ref dr, .ref rd, .ref sc, .ref sk, .ref fl, .ref ps, .int 0, .int 0, .ref sh])), (tp, .inl (kB, 400, .inl (fun _ => 0))), (nw, .inr (1, [.ref nm, .ref nb, .int 0, .int 0, .int 0])), (dr, .inr (1, [.ref dm, .ref db, .int 0, .int 0, .int 0])), (rd, .inr (4, [.ref tp, .int 0, .int 0, .int 0, .int 0, .int 0])), (sc, .inr (5, [.ref nw, .ref ss, .int 0, .int (-1), .int 0, .int 0, .int 0, .int 0, .int 0])), (ps, .inl (kF, 10, .inr (.inr (.inr (.inr (fun _ => none)))))), (sh, .inl (kG, 2, .inr (.inr (.inr (.inr (fun _ => none)))))), (m0, .inr (7, [.ref mnw, .ref mhd, .ref mas, .ref mps, .ref msf, .ref mdt, .ref mhdd, .ref masd, .ref mpsd, .ref msfd, .ref mkp, .int 0, .ref mtp, .int 0, .int 0, .int 0, .int 0, .ref mld, .int 0, .ref mmd, .ref men, .ref mil, .ref mqu, .int 0, .int 0, .ref mbx])), (mnw, .inl (kI, 99, .inl (fun _ => 0))), (mhd, .inl (kI2, 99, .inl (fun _ => 0))), (mas, .inl (kI3, 99, .inl (fun _ => 0))), (mps, .inl (kI4, 990, .inl (fun _ => 0))), (msf, .inl (kI5, 198, .inl (fun _ => 0))), (mdt, .inl (kJ, 640, .inr (.inl (fun _ => 0)))), (mhdd, .inl (kJ2, 640, .inr (.inl (fun _ => 0)))), (masd, .inl (kJ3, 640, .inr (.inl (fun _ => 0)))), (mpsd, .inl (kJ4, 6400, .inr (.inl (fun _ => 0)))), (msfd, .inl (kJ5, 1280, .inr (.inl (fun _ => 0)))), (mkp, .inl (kZ, 2, .inl (fun _ => 0))), (mtp, .inl (kY, 400, .inl (fun _ => 0)))] H) (hD : va_D (fun q : Nat => s.heap.size ≤ q) [(x0, .inr (6, [.ref tp, .int 0, .ref nw, .ref dr, .ref rd, .ref sc, .ref sk, .ref fl, .ref ps, .int 0, .int 0, .ref sh])), (tp, .inl (kB, 400, .inl (fun _ => 0))), (nw, .inr (1, [.ref nm, .ref nb, .int 0, .int 0, .int 0])), (dr, .inr (1, [.ref dm, .ref db, .int 0, .int 0, .int 0])), (rd, .inr (4, [.ref tp, .int 0, .int 0, .int 0, .int 0, .int 0])), (sc, .inr (5, [.ref nw, .ref ss, .int 0, .int (-1), .int 0, .int 0, .int 0, .int 0, .int 0])), (ps, .inl (kF, 10, .inr (.inr (.inr (.inr (fun _ => none)))))), (sh, .inl (kG, 2, .inr (.inr (.inr (.inr (fun _ => none)))))), (m0, .inr (7, [.ref mnw, .ref mhd, .ref mas, .ref mps, .ref msf, .ref mdt, .ref mhdd, .ref masd, .ref mpsd, .ref msfd, .ref mkp, .int 0, .ref mtp, .int 0, .int 0, .int 0, .int 0, .ref mld, .int 0, .ref mmd, .ref men, .ref mil, .ref mqu, .int 0, .int 0, .ref mbx])), (mnw, .inl (kI, 99, .inl (fun _ => 0))), (mhd, .inl (kI2, 99, .inl (fun _ => 0))), (mas, .inl (kI3, 99, .inl (fun _ => 0))), (mps, .inl (kI4, 990, .inl (fun _ => 0))), (msf, .inl (kI5, 198, .inl (fun _ => 0))), (mdt, .inl (kJ, 640, .inr (.inl (fun _ => 0)))), (mhdd, .inl (kJ2, 640, .inr (.inl (fun _ => 0)))), (masd, .inl (kJ3, 640, .inr (.inl (fun _ => 0)))), (mpsd, .inl (kJ4, 6400, .inr (.inl (fun _ => 0)))), (msfd, .inl (kJ5, 1280, .inr (.inl (fun _ => 0)))), (mkp, .inl (kZ, 2, .inl (fun _ => 0))), (mtp, .inl (kY, 400, .inl (fun _ => 0)))]) (hS : va_S (fun q : Nat => s.heap.size ≤ q) s.heap H locs) (hl : lv_has ls 4 [(3, .int 0), (2, .ref m0), (1, .ref x0), (0, .ref b)]) : W p l e room_1 s m #[Value.ref b] below meth c H locs 110 27528 (lw_Z below #[Value.ref b] s) (F0 m 1354 ls []) := by
  obtain ⟨hx, hb, hr, hml, hown, htl, hX, hbl, hlocks, hgv⟩ := id C0
  have hb : c.code = cL_law := hb
  have hown : s.vm.findClass RL = some m.cls := hown
  have hts : ∀ w ∈ pw, w.before #[Value.ref b] s = true := fun w h => htl w (pw_tbl h)
  have hN : xN s := xN_of htl
  have hA : ∀ q : Nat, s.heap.size ≤ q → (fun q : Nat => s.heap.size ≤ q) q := fun _ h => h
  have hbA : ¬ (fun q : Nat => s.heap.size ≤ q) b := Nat.not_le.mpr hbl
  refine lv_aload_n hx hb dL_law_1354 rfl (lv_at hl 2 rfl) ?_
  refine lv_aload_n hx hb dL_law_1355 rfl (lv_at hl 3 rfl) ?_
  refine lv_iload_n hx hb dL_law_1356 rfl (lv_at hl 0 rfl) ?_
  refine lv_iconst (v := 1) hx hb dL_law_1357 (by decide +kernel) ?_
  refine lv_iadd hx hb dL_law_1358 ?_
  refine lv_topi (fun z1 ez1 => ?_)
  obtain rfl : z1 = 1 := ez1.trans (by decide +kernel)
  refine va_sld hx hb hX hbl hbA hS (in_d (by decide +kernel)) dL_law_1359 ?_
  refine lv_aload_n hx hb dL_law_1360 rfl (lv_at hl 3 rfl) ?_
  refine lv_iload_n hx hb dL_law_1361 rfl (lv_at hl 0 rfl) ?_
  refine lv_iconst (v := 2) hx hb dL_law_1362 (by decide +kernel) ?_
  refine lv_iadd hx hb dL_law_1363 ?_
  refine lv_topi (fun z2 ez2 => ?_)
  obtain rfl : z2 = 2 := ez2.trans (by decide +kernel)
  refine va_sld hx hb hX hbl hbA hS (in_d (by decide +kernel)) dL_law_1364 ?_
  refine lv_aload_n hx hb dL_law_1365 rfl (lv_at hl 3 rfl) ?_
  refine lv_iload_n hx hb dL_law_1366 rfl (lv_at hl 0 rfl) ?_
  refine lv_iconst (v := 3) hx hb dL_law_1367 (by decide +kernel) ?_
  refine lv_iadd hx hb dL_law_1368 ?_
  refine lv_topi (fun z3 ez3 => ?_)
  obtain rfl : z3 = 3 := ez3.trans (by decide +kernel)
  refine va_sld hx hb hX hbl hbA hS (in_d (by decide +kernel)) dL_law_1369 ?_
  have hPc := hP.sub (ws' := [(x0, .inr (6, [.ref tp, .int 0, .ref nw, .ref dr, .ref rd, .ref sc, .ref sk, .ref fl, .ref ps, .int 0, .int 0, .ref sh])), (nw, .inr (1, [.ref nm, .ref nb, .int 0, .int 0, .int 0]))]) [0, 2] rfl
  have hDc := hD.sub (ws' := [(x0, .inr (6, [.ref tp, .int 0, .ref nw, .ref dr, .ref rd, .ref sc, .ref sk, .ref fl, .ref ps, .int 0, .int 0, .ref sh])), (nw, .inr (1, [.ref nm, .ref nb, .int 0, .int 0, .int 0]))]) [0, 2] (by decide) rfl
  have hKc := hK.sub (tys' := []) [] rfl
  refine ro_i (va_runV (As := [.int (xs (1 : Int32).toNatClampNeg), .int (xs (2 : Int32).toNatClampNeg), .int (xs (3 : Int32).toNatClampNeg)]) (rest := []) ⟨hx, hb, hml, hown, hts⟩ (c_X6_apart l dC dI x0 tp nw dr rd sc sk fl ps sh nm nb H.size (xs (1 : Int32).toNatClampNeg) (xs (2 : Int32).toNatClampNeg) (xs (3 : Int32).toNatClampNeg) ) (cwV 3 hts (gV pq1040 pq1041 pq1042 pq74 pq1043) rfl rfl rfl (by decide +kernel) ⟨(Nat.le_of_ble_eq_true rfl), (Nat.le_of_ble_eq_true rfl)⟩) (pc_V hPc hDc hKc hN (va_recv hK hP (ci := 6) (q0 := 0) rfl rfl)) rfl rfl hl.1 rfl (lv_room (Nat.le_of_ble_eq_true rfl)) dL_law_1370 ⟨(Nat.le_of_ble_eq_true rfl), (Nat.le_of_ble_eq_true rfl)⟩) hS hP (fun r4 H locs hr4 hP hS => ?_)
  subst hr4
  refine lv_aload_n hx hb dL_law_1373 rfl (lv_at hl 1 rfl) ?_
  refine lv_aload_n hx hb dL_law_1374 rfl (lv_at hl 3 rfl) ?_
  refine lv_iload_n hx hb dL_law_1375 rfl (lv_at hl 0 rfl) ?_
  refine lv_iconst (v := 1) hx hb dL_law_1376 (by decide +kernel) ?_
  refine lv_iadd hx hb dL_law_1377 ?_
  refine lv_topi (fun z5 ez5 => ?_)
  obtain rfl : z5 = 1 := ez5.trans (by decide +kernel)
  refine va_sld hx hb hX hbl hbA hS (in_d (by decide +kernel)) dL_law_1378 ?_
  refine lv_aload_n hx hb dL_law_1379 rfl (lv_at hl 3 rfl) ?_
  refine lv_iload_n hx hb dL_law_1380 rfl (lv_at hl 0 rfl) ?_
  refine lv_iconst (v := 2) hx hb dL_law_1381 (by decide +kernel) ?_
  refine lv_iadd hx hb dL_law_1382 ?_
  refine lv_topi (fun z6 ez6 => ?_)
  obtain rfl : z6 = 2 := ez6.trans (by decide +kernel)
  refine va_sld hx hb hX hbl hbA hS (in_d (by decide +kernel)) dL_law_1383 ?_
  refine lv_aload_n hx hb dL_law_1384 rfl (lv_at hl 3 rfl) ?_
  refine lv_iload_n hx hb dL_law_1385 rfl (lv_at hl 0 rfl) ?_
  refine lv_iconst (v := 3) hx hb dL_law_1386 (by decide +kernel) ?_
  refine lv_iadd hx hb dL_law_1387 ?_
  refine lv_topi (fun z7 ez7 => ?_)
  obtain rfl : z7 = 3 := ez7.trans (by decide +kernel)
  refine va_sld hx hb hX hbl hbA hS (in_d (by decide +kernel)) dL_law_1388 ?_
  have hPc := hP.sub (ws' := [(m0, .inr (7, [.ref mnw, .ref mhd, .ref mas, .ref mps, .ref msf, .ref mdt, .ref mhdd, .ref masd, .ref mpsd, .ref msfd, .ref mkp, .int 0, .ref mtp, .int 0, .int 0, .int 0, .int 0, .ref mld, .int 0, .ref mmd, .ref men, .ref mil, .ref mqu, .int 0, .int 0, .ref mbx])), (mnw, .inl (kI, 99, .inl (fun _ => 0)))]) [8, 9] rfl
  have hDc := hD.sub (ws' := [(m0, .inr (7, [.ref mnw, .ref mhd, .ref mas, .ref mps, .ref msf, .ref mdt, .ref mhdd, .ref masd, .ref mpsd, .ref msfd, .ref mkp, .int 0, .ref mtp, .int 0, .int 0, .int 0, .int 0, .ref mld, .int 0, .ref mmd, .ref men, .ref mil, .ref mqu, .int 0, .int 0, .ref mbx])), (mnw, .inl (kI, 99, .inl (fun _ => 0)))]) [8, 9] (by decide) rfl
  have hKc := hK.sub (tys' := [(kI, .int)]) [3] rfl
  refine ro_i (va_runV (As := [.int (xs (1 : Int32).toNatClampNeg), .int (xs (2 : Int32).toNatClampNeg), .int (xs (3 : Int32).toNatClampNeg)]) (rest := [.int (-2000)]) ⟨hx, hb, hml, hown, hts⟩ (c_X7_apart l dC dI m0 mnw mhd mas mps msf mdt mhdd masd mpsd msfd mkp mtp mld mmd men mil mqu mbx kI H.size (xs (1 : Int32).toNatClampNeg) (xs (2 : Int32).toNatClampNeg) (xs (3 : Int32).toNatClampNeg) ) (cwV 3 hts (gV pq1629 pq1630 pq1631 pq81 pq1632) rfl rfl rfl (by decide +kernel) ⟨(Nat.le_of_ble_eq_true rfl), (Nat.le_of_ble_eq_true rfl)⟩) (pc_V hPc hDc hKc hN (va_recv hK hP (ci := 7) (q0 := 8) rfl rfl)) rfl rfl hl.1 rfl (lv_room (Nat.le_of_ble_eq_true rfl)) dL_law_1389 ⟨(Nat.le_of_ble_eq_true rfl), (Nat.le_of_ble_eq_true rfl)⟩) hS hP (fun r8 H locs hr8 hP hS => ?_)
  subst hr8
  refine lv_icmp_eq (tgt := 1950) hx hb dL_law_1392 (by decide) (fun c9 => ?_) (fun c9 => absurd (by decide +kernel) c9)
  refine lv_iinc (v := 6) (lv' := [(3, .int 6), (2, .ref m0), (1, .ref x0), (0, .ref b)]) hx hb dL_law_1950 hl (k := 0) rfl (by decide +kernel) (by decide) rfl (fun ls hl => ?_)
  refine lv_goto (tgt := 18) hx hb dL_law_1953 (by decide) ?_
  refine lv_iload_n hx hb dL_law_18 rfl (lv_at hl 0 rfl) ?_
  refine lv_aload_n hx hb dL_law_19 rfl (lv_at hl 3 rfl) ?_
  refine va_slen hx hb hX hbl hbA hS dL_law_20 ?_
  refine lv_bipush (v := 6) hx hb dL_law_21 (by decide +kernel) ?_
  refine lv_isub hx hb dL_law_23 ?_
  refine lv_topi (fun z10 ez10 => ?_)
  obtain rfl : z10 = 0 := ez10.trans (by decide +kernel)
  refine lv_icmp_gt (tgt := 1956) hx hb dL_law_24 (by decide) (fun c11 => ?_) (fun c11 => absurd (by decide +kernel) c11)
  refine lv_iconst (v := 1) hx hb dL_law_1956 (by decide +kernel) ?_
  refine va_forget (fun q hq => hS.2.2 q hq) ?_
  refine W.widen (k := 600000) (n := 7302249) (Nat.le_of_ble_eq_true rfl) (Nat.le_of_ble_eq_true rfl) ?_
  refine W.base ?_
  exact lw_ret (Drawn.sameBut.refl s.drawn lw_cs) hx hb hr hlocks dL_law_1957

set_option maxHeartbeats 4000000 in
set_option maxRecDepth 100000 in
theorem lw_case34 {p : Program} {e : Env} {s : State} {m : MethodId} {below : List Frame} {meth : Method} {c : Code} (l : Launch) {b : Nat} {xs : Nat → Int32} {dC : Nat → ClassId} {dI : Nat → Nat → Nat} (C0 : lw_At p s m meth c b 6 xs) {x0 tp nw dr rd sc sk fl ps sh nm nb dm db ss m0 mnw mhd mas mps msf mdt mhdd masd mpsd msfd mkp mtp mld mmd men mil mqu mbx : Nat} {kB kF kG kI kI2 kI3 kI4 kI5 kJ kJ2 kJ3 kJ4 kJ5 kZ kY : ClassId} {H : Heap} {locs : List Loc} {ls : Array Slot} (hK : va_K (dC, dI) vwCl [(kB, .byte), (kF, .object RX1), (kG, .object RX1), (kI, .int), (kI2, .int), (kI3, .int), (kI4, .int), (kI5, .int), (kJ, .long), (kJ2, .long), (kJ3, .long), (kJ4, .long), (kJ5, .long), (kZ, .boolean), (kY, .byte)] s) (hP : va_P (dC, dI) vwCl [(x0, .inr (6, [.ref tp, .int 0, .ref nw, .ref dr, .ref rd, .ref sc, .ref sk, .ref fl, .ref ps, .int 0, .int 0, .ref sh])), (tp, .inl (kB, 400, .inl (fun _ => 0))), (nw, .inr (1, [.ref nm, .ref nb, .int 0, .int 0, .int 0])), (dr, .inr (1, [.ref dm, .ref db, .int 0, .int 0, .int 0])), (rd, .inr (4, [.ref tp, .int 0, .int 0, .int 0, .int 0, .int 0])), (sc, .inr (5, [.ref nw, .ref ss, .int 0, .int (-1), .int 0, .int 0, .int 0, .int 0, .int 0])), (ps, .inl (kF, 10, .inr (.inr (.inr (.inr (fun _ => none)))))), (sh, .inl (kG, 2, .inr (.inr (.inr (.inr (fun _ => none)))))), (m0, .inr (7, [.ref mnw, .ref mhd, .ref mas, .ref mps, .ref msf, .ref mdt, .ref mhdd, .ref masd, .ref mpsd, .ref msfd, .ref mkp, .int 0, .ref mtp, .int 0, .int 0, .int 0, .int 0, .ref mld, .int 0, .ref mmd, .ref men, .ref mil, .ref mqu, .int 0, .int 0, .ref mbx])), (mnw, .inl (kI, 99, .inl (fun _ => 0))), (mhd, .inl (kI2, 99, .inl (fun _ => 0))), (mas, .inl (kI3, 99, .inl (fun _ => 0))), (mps, .inl (kI4, 990, .inl (fun _ => 0))), (msf, .inl (kI5, 198, .inl (fun _ => 0))), (mdt, .inl (kJ, 640, .inr (.inl (fun _ => 0)))), (mhdd, .inl (kJ2, 640, .inr (.inl (fun _ => 0)))), (masd, .inl (kJ3, 640, .inr (.inl (fun _ => 0)))), (mpsd, .inl (kJ4, 6400, .inr (.inl (fun _ => 0)))), (msfd, .inl (kJ5, 1280, .inr (.inl (fun _ => 0)))), (mkp, .inl (kZ, 2, .inl (fun _ => 0))), (mtp, .inl (kY, 400, .inl (fun _ => 0)))] H) (hD : va_D (fun q : Nat => s.heap.size ≤ q) [(x0, .inr (6, [.ref tp, .int 0, .ref nw, .ref dr, .ref rd, .ref sc, .ref sk, .ref fl, .ref ps, .int 0, .int 0, .ref sh])), (tp, .inl (kB, 400, .inl (fun _ => 0))), (nw, .inr (1, [.ref nm, .ref nb, .int 0, .int 0, .int 0])), (dr, .inr (1, [.ref dm, .ref db, .int 0, .int 0, .int 0])), (rd, .inr (4, [.ref tp, .int 0, .int 0, .int 0, .int 0, .int 0])), (sc, .inr (5, [.ref nw, .ref ss, .int 0, .int (-1), .int 0, .int 0, .int 0, .int 0, .int 0])), (ps, .inl (kF, 10, .inr (.inr (.inr (.inr (fun _ => none)))))), (sh, .inl (kG, 2, .inr (.inr (.inr (.inr (fun _ => none)))))), (m0, .inr (7, [.ref mnw, .ref mhd, .ref mas, .ref mps, .ref msf, .ref mdt, .ref mhdd, .ref masd, .ref mpsd, .ref msfd, .ref mkp, .int 0, .ref mtp, .int 0, .int 0, .int 0, .int 0, .ref mld, .int 0, .ref mmd, .ref men, .ref mil, .ref mqu, .int 0, .int 0, .ref mbx])), (mnw, .inl (kI, 99, .inl (fun _ => 0))), (mhd, .inl (kI2, 99, .inl (fun _ => 0))), (mas, .inl (kI3, 99, .inl (fun _ => 0))), (mps, .inl (kI4, 990, .inl (fun _ => 0))), (msf, .inl (kI5, 198, .inl (fun _ => 0))), (mdt, .inl (kJ, 640, .inr (.inl (fun _ => 0)))), (mhdd, .inl (kJ2, 640, .inr (.inl (fun _ => 0)))), (masd, .inl (kJ3, 640, .inr (.inl (fun _ => 0)))), (mpsd, .inl (kJ4, 6400, .inr (.inl (fun _ => 0)))), (msfd, .inl (kJ5, 1280, .inr (.inl (fun _ => 0)))), (mkp, .inl (kZ, 2, .inl (fun _ => 0))), (mtp, .inl (kY, 400, .inl (fun _ => 0)))]) (hS : va_S (fun q : Nat => s.heap.size ≤ q) s.heap H locs) (hl : lv_has ls 4 [(3, .int 0), (2, .ref m0), (1, .ref x0), (0, .ref b)]) : W p l e room_1 s m #[Value.ref b] below meth c H locs 110 27528 (lw_Z below #[Value.ref b] s) (F0 m 1397 ls []) := by
  obtain ⟨hx, hb, hr, hml, hown, htl, hX, hbl, hlocks, hgv⟩ := id C0
  have hb : c.code = cL_law := hb
  have hown : s.vm.findClass RL = some m.cls := hown
  have hts : ∀ w ∈ pw, w.before #[Value.ref b] s = true := fun w h => htl w (pw_tbl h)
  have hN : xN s := xN_of htl
  have hA : ∀ q : Nat, s.heap.size ≤ q → (fun q : Nat => s.heap.size ≤ q) q := fun _ h => h
  have hbA : ¬ (fun q : Nat => s.heap.size ≤ q) b := Nat.not_le.mpr hbl
  refine lv_aload_n hx hb dL_law_1397 rfl (lv_at hl 2 rfl) ?_
  refine lv_aload_n hx hb dL_law_1398 rfl (lv_at hl 3 rfl) ?_
  refine lv_iload_n hx hb dL_law_1399 rfl (lv_at hl 0 rfl) ?_
  refine lv_iconst (v := 1) hx hb dL_law_1400 (by decide +kernel) ?_
  refine lv_iadd hx hb dL_law_1401 ?_
  refine lv_topi (fun z1 ez1 => ?_)
  obtain rfl : z1 = 1 := ez1.trans (by decide +kernel)
  refine va_sld hx hb hX hbl hbA hS (in_d (by decide +kernel)) dL_law_1402 ?_
  refine lv_aload_n hx hb dL_law_1403 rfl (lv_at hl 3 rfl) ?_
  refine lv_iload_n hx hb dL_law_1404 rfl (lv_at hl 0 rfl) ?_
  refine lv_iconst (v := 2) hx hb dL_law_1405 (by decide +kernel) ?_
  refine lv_iadd hx hb dL_law_1406 ?_
  refine lv_topi (fun z2 ez2 => ?_)
  obtain rfl : z2 = 2 := ez2.trans (by decide +kernel)
  refine va_sld hx hb hX hbl hbA hS (in_d (by decide +kernel)) dL_law_1407 ?_
  refine lv_aload_n hx hb dL_law_1408 rfl (lv_at hl 3 rfl) ?_
  refine lv_iload_n hx hb dL_law_1409 rfl (lv_at hl 0 rfl) ?_
  refine lv_iconst (v := 3) hx hb dL_law_1410 (by decide +kernel) ?_
  refine lv_iadd hx hb dL_law_1411 ?_
  refine lv_topi (fun z3 ez3 => ?_)
  obtain rfl : z3 = 3 := ez3.trans (by decide +kernel)
  refine va_sld hx hb hX hbl hbA hS (in_d (by decide +kernel)) dL_law_1412 ?_
  have hPc := hP.sub (ws' := [(x0, .inr (6, [.ref tp, .int 0, .ref nw, .ref dr, .ref rd, .ref sc, .ref sk, .ref fl, .ref ps, .int 0, .int 0, .ref sh])), (nw, .inr (1, [.ref nm, .ref nb, .int 0, .int 0, .int 0]))]) [0, 2] rfl
  have hDc := hD.sub (ws' := [(x0, .inr (6, [.ref tp, .int 0, .ref nw, .ref dr, .ref rd, .ref sc, .ref sk, .ref fl, .ref ps, .int 0, .int 0, .ref sh])), (nw, .inr (1, [.ref nm, .ref nb, .int 0, .int 0, .int 0]))]) [0, 2] (by decide) rfl
  have hKc := hK.sub (tys' := []) [] rfl
  refine ro_i (va_runV (As := [.int (xs (1 : Int32).toNatClampNeg), .int (xs (2 : Int32).toNatClampNeg), .int (xs (3 : Int32).toNatClampNeg)]) (rest := []) ⟨hx, hb, hml, hown, hts⟩ (c_X6_best l dC dI x0 tp nw dr rd sc sk fl ps sh nm nb H.size (xs (1 : Int32).toNatClampNeg) (xs (2 : Int32).toNatClampNeg) (xs (3 : Int32).toNatClampNeg) ) (cwV 3 hts (gV pq1049 pq1050 pq1051 pq74 pq1052) rfl rfl rfl (by decide +kernel) ⟨(Nat.le_of_ble_eq_true rfl), (Nat.le_of_ble_eq_true rfl)⟩) (pc_V hPc hDc hKc hN (va_recv hK hP (ci := 6) (q0 := 0) rfl rfl)) rfl rfl hl.1 rfl (lv_room (Nat.le_of_ble_eq_true rfl)) dL_law_1413 ⟨(Nat.le_of_ble_eq_true rfl), (Nat.le_of_ble_eq_true rfl)⟩) hS hP (fun r4 H locs hr4 hP hS => ?_)
  subst hr4
  refine lv_aload_n hx hb dL_law_1416 rfl (lv_at hl 1 rfl) ?_
  refine lv_aload_n hx hb dL_law_1417 rfl (lv_at hl 3 rfl) ?_
  refine lv_iload_n hx hb dL_law_1418 rfl (lv_at hl 0 rfl) ?_
  refine lv_iconst (v := 1) hx hb dL_law_1419 (by decide +kernel) ?_
  refine lv_iadd hx hb dL_law_1420 ?_
  refine lv_topi (fun z5 ez5 => ?_)
  obtain rfl : z5 = 1 := ez5.trans (by decide +kernel)
  refine va_sld hx hb hX hbl hbA hS (in_d (by decide +kernel)) dL_law_1421 ?_
  refine lv_aload_n hx hb dL_law_1422 rfl (lv_at hl 3 rfl) ?_
  refine lv_iload_n hx hb dL_law_1423 rfl (lv_at hl 0 rfl) ?_
  refine lv_iconst (v := 2) hx hb dL_law_1424 (by decide +kernel) ?_
  refine lv_iadd hx hb dL_law_1425 ?_
  refine lv_topi (fun z6 ez6 => ?_)
  obtain rfl : z6 = 2 := ez6.trans (by decide +kernel)
  refine va_sld hx hb hX hbl hbA hS (in_d (by decide +kernel)) dL_law_1426 ?_
  refine lv_aload_n hx hb dL_law_1427 rfl (lv_at hl 3 rfl) ?_
  refine lv_iload_n hx hb dL_law_1428 rfl (lv_at hl 0 rfl) ?_
  refine lv_iconst (v := 3) hx hb dL_law_1429 (by decide +kernel) ?_
  refine lv_iadd hx hb dL_law_1430 ?_
  refine lv_topi (fun z7 ez7 => ?_)
  obtain rfl : z7 = 3 := ez7.trans (by decide +kernel)
  refine va_sld hx hb hX hbl hbA hS (in_d (by decide +kernel)) dL_law_1431 ?_
  have hPc := hP.sub (ws' := [(m0, .inr (7, [.ref mnw, .ref mhd, .ref mas, .ref mps, .ref msf, .ref mdt, .ref mhdd, .ref masd, .ref mpsd, .ref msfd, .ref mkp, .int 0, .ref mtp, .int 0, .int 0, .int 0, .int 0, .ref mld, .int 0, .ref mmd, .ref men, .ref mil, .ref mqu, .int 0, .int 0, .ref mbx])), (mnw, .inl (kI, 99, .inl (fun _ => 0)))]) [8, 9] rfl
  have hDc := hD.sub (ws' := [(m0, .inr (7, [.ref mnw, .ref mhd, .ref mas, .ref mps, .ref msf, .ref mdt, .ref mhdd, .ref masd, .ref mpsd, .ref msfd, .ref mkp, .int 0, .ref mtp, .int 0, .int 0, .int 0, .int 0, .ref mld, .int 0, .ref mmd, .ref men, .ref mil, .ref mqu, .int 0, .int 0, .ref mbx])), (mnw, .inl (kI, 99, .inl (fun _ => 0)))]) [8, 9] (by decide) rfl
  have hKc := hK.sub (tys' := [(kI, .int)]) [3] rfl
  refine ro_i (va_runV (As := [.int (xs (1 : Int32).toNatClampNeg), .int (xs (2 : Int32).toNatClampNeg), .int (xs (3 : Int32).toNatClampNeg)]) (rest := [.int (-2000)]) ⟨hx, hb, hml, hown, hts⟩ (c_X7_best l dC dI m0 mnw mhd mas mps msf mdt mhdd masd mpsd msfd mkp mtp mld mmd men mil mqu mbx kI H.size (xs (1 : Int32).toNatClampNeg) (xs (2 : Int32).toNatClampNeg) (xs (3 : Int32).toNatClampNeg) ) (cwV 3 hts (gV pq1633 pq1634 pq1635 pq81 pq1636) rfl rfl rfl (by decide +kernel) ⟨(Nat.le_of_ble_eq_true rfl), (Nat.le_of_ble_eq_true rfl)⟩) (pc_V hPc hDc hKc hN (va_recv hK hP (ci := 7) (q0 := 8) rfl rfl)) rfl rfl hl.1 rfl (lv_room (Nat.le_of_ble_eq_true rfl)) dL_law_1432 ⟨(Nat.le_of_ble_eq_true rfl), (Nat.le_of_ble_eq_true rfl)⟩) hS hP (fun r8 H locs hr8 hP hS => ?_)
  subst hr8
  refine lv_icmp_eq (tgt := 1950) hx hb dL_law_1435 (by decide) (fun c9 => ?_) (fun c9 => absurd (by decide +kernel) c9)
  refine lv_iinc (v := 6) (lv' := [(3, .int 6), (2, .ref m0), (1, .ref x0), (0, .ref b)]) hx hb dL_law_1950 hl (k := 0) rfl (by decide +kernel) (by decide) rfl (fun ls hl => ?_)
  refine lv_goto (tgt := 18) hx hb dL_law_1953 (by decide) ?_
  refine lv_iload_n hx hb dL_law_18 rfl (lv_at hl 0 rfl) ?_
  refine lv_aload_n hx hb dL_law_19 rfl (lv_at hl 3 rfl) ?_
  refine va_slen hx hb hX hbl hbA hS dL_law_20 ?_
  refine lv_bipush (v := 6) hx hb dL_law_21 (by decide +kernel) ?_
  refine lv_isub hx hb dL_law_23 ?_
  refine lv_topi (fun z10 ez10 => ?_)
  obtain rfl : z10 = 0 := ez10.trans (by decide +kernel)
  refine lv_icmp_gt (tgt := 1956) hx hb dL_law_24 (by decide) (fun c11 => ?_) (fun c11 => absurd (by decide +kernel) c11)
  refine lv_iconst (v := 1) hx hb dL_law_1956 (by decide +kernel) ?_
  refine va_forget (fun q hq => hS.2.2 q hq) ?_
  refine W.widen (k := 600000) (n := 7302249) (Nat.le_of_ble_eq_true rfl) (Nat.le_of_ble_eq_true rfl) ?_
  refine W.base ?_
  exact lw_ret (Drawn.sameBut.refl s.drawn lw_cs) hx hb hr hlocks dL_law_1957

set_option maxHeartbeats 4000000 in
set_option maxRecDepth 100000 in
theorem lw_case35 {p : Program} {e : Env} {s : State} {m : MethodId} {below : List Frame} {meth : Method} {c : Code} (l : Launch) {b : Nat} {xs : Nat → Int32} {dC : Nat → ClassId} {dI : Nat → Nat → Nat} (C0 : lw_At p s m meth c b 6 xs) {x0 tp nw dr rd sc sk fl ps sh nm nb dm db ss m0 mnw mhd mas mps msf mdt mhdd masd mpsd msfd mkp mtp mld mmd men mil mqu mbx : Nat} {kB kF kG kI kI2 kI3 kI4 kI5 kJ kJ2 kJ3 kJ4 kJ5 kZ kY : ClassId} {H : Heap} {locs : List Loc} {ls : Array Slot} (hK : va_K (dC, dI) vwCl [(kB, .byte), (kF, .object RX1), (kG, .object RX1), (kI, .int), (kI2, .int), (kI3, .int), (kI4, .int), (kI5, .int), (kJ, .long), (kJ2, .long), (kJ3, .long), (kJ4, .long), (kJ5, .long), (kZ, .boolean), (kY, .byte)] s) (hP : va_P (dC, dI) vwCl [(x0, .inr (6, [.ref tp, .int 0, .ref nw, .ref dr, .ref rd, .ref sc, .ref sk, .ref fl, .ref ps, .int 0, .int 0, .ref sh])), (tp, .inl (kB, 400, .inl (fun _ => 0))), (nw, .inr (1, [.ref nm, .ref nb, .int 0, .int 0, .int 0])), (dr, .inr (1, [.ref dm, .ref db, .int 0, .int 0, .int 0])), (rd, .inr (4, [.ref tp, .int 0, .int 0, .int 0, .int 0, .int 0])), (sc, .inr (5, [.ref nw, .ref ss, .int 0, .int (-1), .int 0, .int 0, .int 0, .int 0, .int 0])), (ps, .inl (kF, 10, .inr (.inr (.inr (.inr (fun _ => none)))))), (sh, .inl (kG, 2, .inr (.inr (.inr (.inr (fun _ => none)))))), (m0, .inr (7, [.ref mnw, .ref mhd, .ref mas, .ref mps, .ref msf, .ref mdt, .ref mhdd, .ref masd, .ref mpsd, .ref msfd, .ref mkp, .int 0, .ref mtp, .int 0, .int 0, .int 0, .int 0, .ref mld, .int 0, .ref mmd, .ref men, .ref mil, .ref mqu, .int 0, .int 0, .ref mbx])), (mnw, .inl (kI, 99, .inl (fun _ => 0))), (mhd, .inl (kI2, 99, .inl (fun _ => 0))), (mas, .inl (kI3, 99, .inl (fun _ => 0))), (mps, .inl (kI4, 990, .inl (fun _ => 0))), (msf, .inl (kI5, 198, .inl (fun _ => 0))), (mdt, .inl (kJ, 640, .inr (.inl (fun _ => 0)))), (mhdd, .inl (kJ2, 640, .inr (.inl (fun _ => 0)))), (masd, .inl (kJ3, 640, .inr (.inl (fun _ => 0)))), (mpsd, .inl (kJ4, 6400, .inr (.inl (fun _ => 0)))), (msfd, .inl (kJ5, 1280, .inr (.inl (fun _ => 0)))), (mkp, .inl (kZ, 2, .inl (fun _ => 0))), (mtp, .inl (kY, 400, .inl (fun _ => 0)))] H) (hD : va_D (fun q : Nat => s.heap.size ≤ q) [(x0, .inr (6, [.ref tp, .int 0, .ref nw, .ref dr, .ref rd, .ref sc, .ref sk, .ref fl, .ref ps, .int 0, .int 0, .ref sh])), (tp, .inl (kB, 400, .inl (fun _ => 0))), (nw, .inr (1, [.ref nm, .ref nb, .int 0, .int 0, .int 0])), (dr, .inr (1, [.ref dm, .ref db, .int 0, .int 0, .int 0])), (rd, .inr (4, [.ref tp, .int 0, .int 0, .int 0, .int 0, .int 0])), (sc, .inr (5, [.ref nw, .ref ss, .int 0, .int (-1), .int 0, .int 0, .int 0, .int 0, .int 0])), (ps, .inl (kF, 10, .inr (.inr (.inr (.inr (fun _ => none)))))), (sh, .inl (kG, 2, .inr (.inr (.inr (.inr (fun _ => none)))))), (m0, .inr (7, [.ref mnw, .ref mhd, .ref mas, .ref mps, .ref msf, .ref mdt, .ref mhdd, .ref masd, .ref mpsd, .ref msfd, .ref mkp, .int 0, .ref mtp, .int 0, .int 0, .int 0, .int 0, .ref mld, .int 0, .ref mmd, .ref men, .ref mil, .ref mqu, .int 0, .int 0, .ref mbx])), (mnw, .inl (kI, 99, .inl (fun _ => 0))), (mhd, .inl (kI2, 99, .inl (fun _ => 0))), (mas, .inl (kI3, 99, .inl (fun _ => 0))), (mps, .inl (kI4, 990, .inl (fun _ => 0))), (msf, .inl (kI5, 198, .inl (fun _ => 0))), (mdt, .inl (kJ, 640, .inr (.inl (fun _ => 0)))), (mhdd, .inl (kJ2, 640, .inr (.inl (fun _ => 0)))), (masd, .inl (kJ3, 640, .inr (.inl (fun _ => 0)))), (mpsd, .inl (kJ4, 6400, .inr (.inl (fun _ => 0)))), (msfd, .inl (kJ5, 1280, .inr (.inl (fun _ => 0)))), (mkp, .inl (kZ, 2, .inl (fun _ => 0))), (mtp, .inl (kY, 400, .inl (fun _ => 0)))]) (hS : va_S (fun q : Nat => s.heap.size ≤ q) s.heap H locs) (hl : lv_has ls 4 [(3, .int 0), (2, .ref m0), (1, .ref x0), (0, .ref b)]) : W p l e room_1 s m #[Value.ref b] below meth c H locs 110 27528 (lw_Z below #[Value.ref b] s) (F0 m 1440 ls []) := by
  obtain ⟨hx, hb, hr, hml, hown, htl, hX, hbl, hlocks, hgv⟩ := id C0
  have hb : c.code = cL_law := hb
  have hown : s.vm.findClass RL = some m.cls := hown
  have hts : ∀ w ∈ pw, w.before #[Value.ref b] s = true := fun w h => htl w (pw_tbl h)
  have hN : xN s := xN_of htl
  have hA : ∀ q : Nat, s.heap.size ≤ q → (fun q : Nat => s.heap.size ≤ q) q := fun _ h => h
  have hbA : ¬ (fun q : Nat => s.heap.size ≤ q) b := Nat.not_le.mpr hbl
  refine lv_aload_n hx hb dL_law_1440 rfl (lv_at hl 2 rfl) ?_
  refine lv_aload_n hx hb dL_law_1441 rfl (lv_at hl 3 rfl) ?_
  refine lv_iload_n hx hb dL_law_1442 rfl (lv_at hl 0 rfl) ?_
  refine lv_iconst (v := 1) hx hb dL_law_1443 (by decide +kernel) ?_
  refine lv_iadd hx hb dL_law_1444 ?_
  refine lv_topi (fun z1 ez1 => ?_)
  obtain rfl : z1 = 1 := ez1.trans (by decide +kernel)
  refine va_sld hx hb hX hbl hbA hS (in_d (by decide +kernel)) dL_law_1445 ?_
  refine lv_aload_n hx hb dL_law_1446 rfl (lv_at hl 3 rfl) ?_
  refine lv_iload_n hx hb dL_law_1447 rfl (lv_at hl 0 rfl) ?_
  refine lv_iconst (v := 2) hx hb dL_law_1448 (by decide +kernel) ?_
  refine lv_iadd hx hb dL_law_1449 ?_
  refine lv_topi (fun z2 ez2 => ?_)
  obtain rfl : z2 = 2 := ez2.trans (by decide +kernel)
  refine va_sld hx hb hX hbl hbA hS (in_d (by decide +kernel)) dL_law_1450 ?_
  refine lv_aload_n hx hb dL_law_1451 rfl (lv_at hl 3 rfl) ?_
  refine lv_iload_n hx hb dL_law_1452 rfl (lv_at hl 0 rfl) ?_
  refine lv_iconst (v := 3) hx hb dL_law_1453 (by decide +kernel) ?_
  refine lv_iadd hx hb dL_law_1454 ?_
  refine lv_topi (fun z3 ez3 => ?_)
  obtain rfl : z3 = 3 := ez3.trans (by decide +kernel)
  refine va_sld hx hb hX hbl hbA hS (in_d (by decide +kernel)) dL_law_1455 ?_
  have hPc := hP.sub (ws' := [(x0, .inr (6, [.ref tp, .int 0, .ref nw, .ref dr, .ref rd, .ref sc, .ref sk, .ref fl, .ref ps, .int 0, .int 0, .ref sh])), (nw, .inr (1, [.ref nm, .ref nb, .int 0, .int 0, .int 0]))]) [0, 2] rfl
  have hDc := hD.sub (ws' := [(x0, .inr (6, [.ref tp, .int 0, .ref nw, .ref dr, .ref rd, .ref sc, .ref sk, .ref fl, .ref ps, .int 0, .int 0, .ref sh])), (nw, .inr (1, [.ref nm, .ref nb, .int 0, .int 0, .int 0]))]) [0, 2] (by decide) rfl
  have hKc := hK.sub (tys' := []) [] rfl
  refine ro_i (va_runV (As := [.int (xs (1 : Int32).toNatClampNeg), .int (xs (2 : Int32).toNatClampNeg), .int (xs (3 : Int32).toNatClampNeg)]) (rest := []) ⟨hx, hb, hml, hown, hts⟩ (c_X6_slope l dC dI x0 tp nw dr rd sc sk fl ps sh nm nb H.size (xs (1 : Int32).toNatClampNeg) (xs (2 : Int32).toNatClampNeg) (xs (3 : Int32).toNatClampNeg) ) (cwV 3 hts (gV pq1064 pq1065 pq1066 pq74 pq1067) rfl rfl rfl (by decide +kernel) ⟨(Nat.le_of_ble_eq_true rfl), (Nat.le_of_ble_eq_true rfl)⟩) (pc_V hPc hDc hKc hN (va_recv hK hP (ci := 6) (q0 := 0) rfl rfl)) rfl rfl hl.1 rfl (lv_room (Nat.le_of_ble_eq_true rfl)) dL_law_1456 ⟨(Nat.le_of_ble_eq_true rfl), (Nat.le_of_ble_eq_true rfl)⟩) hS hP (fun r4 H locs hr4 hP hS => ?_)
  subst hr4
  refine lv_aload_n hx hb dL_law_1459 rfl (lv_at hl 1 rfl) ?_
  refine lv_aload_n hx hb dL_law_1460 rfl (lv_at hl 3 rfl) ?_
  refine lv_iload_n hx hb dL_law_1461 rfl (lv_at hl 0 rfl) ?_
  refine lv_iconst (v := 1) hx hb dL_law_1462 (by decide +kernel) ?_
  refine lv_iadd hx hb dL_law_1463 ?_
  refine lv_topi (fun z5 ez5 => ?_)
  obtain rfl : z5 = 1 := ez5.trans (by decide +kernel)
  refine va_sld hx hb hX hbl hbA hS (in_d (by decide +kernel)) dL_law_1464 ?_
  refine lv_aload_n hx hb dL_law_1465 rfl (lv_at hl 3 rfl) ?_
  refine lv_iload_n hx hb dL_law_1466 rfl (lv_at hl 0 rfl) ?_
  refine lv_iconst (v := 2) hx hb dL_law_1467 (by decide +kernel) ?_
  refine lv_iadd hx hb dL_law_1468 ?_
  refine lv_topi (fun z6 ez6 => ?_)
  obtain rfl : z6 = 2 := ez6.trans (by decide +kernel)
  refine va_sld hx hb hX hbl hbA hS (in_d (by decide +kernel)) dL_law_1469 ?_
  refine lv_aload_n hx hb dL_law_1470 rfl (lv_at hl 3 rfl) ?_
  refine lv_iload_n hx hb dL_law_1471 rfl (lv_at hl 0 rfl) ?_
  refine lv_iconst (v := 3) hx hb dL_law_1472 (by decide +kernel) ?_
  refine lv_iadd hx hb dL_law_1473 ?_
  refine lv_topi (fun z7 ez7 => ?_)
  obtain rfl : z7 = 3 := ez7.trans (by decide +kernel)
  refine va_sld hx hb hX hbl hbA hS (in_d (by decide +kernel)) dL_law_1474 ?_
  have hPc := hP.sub (ws' := [(m0, .inr (7, [.ref mnw, .ref mhd, .ref mas, .ref mps, .ref msf, .ref mdt, .ref mhdd, .ref masd, .ref mpsd, .ref msfd, .ref mkp, .int 0, .ref mtp, .int 0, .int 0, .int 0, .int 0, .ref mld, .int 0, .ref mmd, .ref men, .ref mil, .ref mqu, .int 0, .int 0, .ref mbx])), (mnw, .inl (kI, 99, .inl (fun _ => 0)))]) [8, 9] rfl
  have hDc := hD.sub (ws' := [(m0, .inr (7, [.ref mnw, .ref mhd, .ref mas, .ref mps, .ref msf, .ref mdt, .ref mhdd, .ref masd, .ref mpsd, .ref msfd, .ref mkp, .int 0, .ref mtp, .int 0, .int 0, .int 0, .int 0, .ref mld, .int 0, .ref mmd, .ref men, .ref mil, .ref mqu, .int 0, .int 0, .ref mbx])), (mnw, .inl (kI, 99, .inl (fun _ => 0)))]) [8, 9] (by decide) rfl
  have hKc := hK.sub (tys' := [(kI, .int)]) [3] rfl
  refine ro_i (va_runV (As := [.int (xs (1 : Int32).toNatClampNeg), .int (xs (2 : Int32).toNatClampNeg), .int (xs (3 : Int32).toNatClampNeg)]) (rest := [.int (-2000000)]) ⟨hx, hb, hml, hown, hts⟩ (c_X7_slope l dC dI m0 mnw mhd mas mps msf mdt mhdd masd mpsd msfd mkp mtp mld mmd men mil mqu mbx kI H.size (xs (1 : Int32).toNatClampNeg) (xs (2 : Int32).toNatClampNeg) (xs (3 : Int32).toNatClampNeg) ) (cwV 3 hts (gV pq1637 pq1638 pq1639 pq81 pq1640) rfl rfl rfl (by decide +kernel) ⟨(Nat.le_of_ble_eq_true rfl), (Nat.le_of_ble_eq_true rfl)⟩) (pc_V hPc hDc hKc hN (va_recv hK hP (ci := 7) (q0 := 8) rfl rfl)) rfl rfl hl.1 rfl (lv_room (Nat.le_of_ble_eq_true rfl)) dL_law_1475 ⟨(Nat.le_of_ble_eq_true rfl), (Nat.le_of_ble_eq_true rfl)⟩) hS hP (fun r8 H locs hr8 hP hS => ?_)
  subst hr8
  refine lv_icmp_eq (tgt := 1950) hx hb dL_law_1478 (by decide) (fun c9 => ?_) (fun c9 => absurd (by decide +kernel) c9)
  refine lv_iinc (v := 6) (lv' := [(3, .int 6), (2, .ref m0), (1, .ref x0), (0, .ref b)]) hx hb dL_law_1950 hl (k := 0) rfl (by decide +kernel) (by decide) rfl (fun ls hl => ?_)
  refine lv_goto (tgt := 18) hx hb dL_law_1953 (by decide) ?_
  refine lv_iload_n hx hb dL_law_18 rfl (lv_at hl 0 rfl) ?_
  refine lv_aload_n hx hb dL_law_19 rfl (lv_at hl 3 rfl) ?_
  refine va_slen hx hb hX hbl hbA hS dL_law_20 ?_
  refine lv_bipush (v := 6) hx hb dL_law_21 (by decide +kernel) ?_
  refine lv_isub hx hb dL_law_23 ?_
  refine lv_topi (fun z10 ez10 => ?_)
  obtain rfl : z10 = 0 := ez10.trans (by decide +kernel)
  refine lv_icmp_gt (tgt := 1956) hx hb dL_law_24 (by decide) (fun c11 => ?_) (fun c11 => absurd (by decide +kernel) c11)
  refine lv_iconst (v := 1) hx hb dL_law_1956 (by decide +kernel) ?_
  refine va_forget (fun q hq => hS.2.2 q hq) ?_
  refine W.widen (k := 600000) (n := 7302249) (Nat.le_of_ble_eq_true rfl) (Nat.le_of_ble_eq_true rfl) ?_
  refine W.base ?_
  exact lw_ret (Drawn.sameBut.refl s.drawn lw_cs) hx hb hr hlocks dL_law_1957

set_option maxHeartbeats 4000000 in
set_option maxRecDepth 100000 in
theorem lw_case36 {p : Program} {e : Env} {s : State} {m : MethodId} {below : List Frame} {meth : Method} {c : Code} (l : Launch) {b : Nat} {xs : Nat → Int32} {dC : Nat → ClassId} {dI : Nat → Nat → Nat} (C0 : lw_At p s m meth c b 6 xs) {x0 tp nw dr rd sc sk fl ps sh nm nb dm db ss m0 mnw mhd mas mps msf mdt mhdd masd mpsd msfd mkp mtp mld mmd men mil mqu mbx : Nat} {kB kF kG kI kI2 kI3 kI4 kI5 kJ kJ2 kJ3 kJ4 kJ5 kZ kY : ClassId} {H : Heap} {locs : List Loc} {ls : Array Slot} (hK : va_K (dC, dI) vwCl [(kB, .byte), (kF, .object RX1), (kG, .object RX1), (kI, .int), (kI2, .int), (kI3, .int), (kI4, .int), (kI5, .int), (kJ, .long), (kJ2, .long), (kJ3, .long), (kJ4, .long), (kJ5, .long), (kZ, .boolean), (kY, .byte)] s) (hP : va_P (dC, dI) vwCl [(x0, .inr (6, [.ref tp, .int 0, .ref nw, .ref dr, .ref rd, .ref sc, .ref sk, .ref fl, .ref ps, .int 0, .int 0, .ref sh])), (tp, .inl (kB, 400, .inl (fun _ => 0))), (nw, .inr (1, [.ref nm, .ref nb, .int 0, .int 0, .int 0])), (dr, .inr (1, [.ref dm, .ref db, .int 0, .int 0, .int 0])), (rd, .inr (4, [.ref tp, .int 0, .int 0, .int 0, .int 0, .int 0])), (sc, .inr (5, [.ref nw, .ref ss, .int 0, .int (-1), .int 0, .int 0, .int 0, .int 0, .int 0])), (ps, .inl (kF, 10, .inr (.inr (.inr (.inr (fun _ => none)))))), (sh, .inl (kG, 2, .inr (.inr (.inr (.inr (fun _ => none)))))), (m0, .inr (7, [.ref mnw, .ref mhd, .ref mas, .ref mps, .ref msf, .ref mdt, .ref mhdd, .ref masd, .ref mpsd, .ref msfd, .ref mkp, .int 0, .ref mtp, .int 0, .int 0, .int 0, .int 0, .ref mld, .int 0, .ref mmd, .ref men, .ref mil, .ref mqu, .int 0, .int 0, .ref mbx])), (mnw, .inl (kI, 99, .inl (fun _ => 0))), (mhd, .inl (kI2, 99, .inl (fun _ => 0))), (mas, .inl (kI3, 99, .inl (fun _ => 0))), (mps, .inl (kI4, 990, .inl (fun _ => 0))), (msf, .inl (kI5, 198, .inl (fun _ => 0))), (mdt, .inl (kJ, 640, .inr (.inl (fun _ => 0)))), (mhdd, .inl (kJ2, 640, .inr (.inl (fun _ => 0)))), (masd, .inl (kJ3, 640, .inr (.inl (fun _ => 0)))), (mpsd, .inl (kJ4, 6400, .inr (.inl (fun _ => 0)))), (msfd, .inl (kJ5, 1280, .inr (.inl (fun _ => 0)))), (mkp, .inl (kZ, 2, .inl (fun _ => 0))), (mtp, .inl (kY, 400, .inl (fun _ => 0)))] H) (hD : va_D (fun q : Nat => s.heap.size ≤ q) [(x0, .inr (6, [.ref tp, .int 0, .ref nw, .ref dr, .ref rd, .ref sc, .ref sk, .ref fl, .ref ps, .int 0, .int 0, .ref sh])), (tp, .inl (kB, 400, .inl (fun _ => 0))), (nw, .inr (1, [.ref nm, .ref nb, .int 0, .int 0, .int 0])), (dr, .inr (1, [.ref dm, .ref db, .int 0, .int 0, .int 0])), (rd, .inr (4, [.ref tp, .int 0, .int 0, .int 0, .int 0, .int 0])), (sc, .inr (5, [.ref nw, .ref ss, .int 0, .int (-1), .int 0, .int 0, .int 0, .int 0, .int 0])), (ps, .inl (kF, 10, .inr (.inr (.inr (.inr (fun _ => none)))))), (sh, .inl (kG, 2, .inr (.inr (.inr (.inr (fun _ => none)))))), (m0, .inr (7, [.ref mnw, .ref mhd, .ref mas, .ref mps, .ref msf, .ref mdt, .ref mhdd, .ref masd, .ref mpsd, .ref msfd, .ref mkp, .int 0, .ref mtp, .int 0, .int 0, .int 0, .int 0, .ref mld, .int 0, .ref mmd, .ref men, .ref mil, .ref mqu, .int 0, .int 0, .ref mbx])), (mnw, .inl (kI, 99, .inl (fun _ => 0))), (mhd, .inl (kI2, 99, .inl (fun _ => 0))), (mas, .inl (kI3, 99, .inl (fun _ => 0))), (mps, .inl (kI4, 990, .inl (fun _ => 0))), (msf, .inl (kI5, 198, .inl (fun _ => 0))), (mdt, .inl (kJ, 640, .inr (.inl (fun _ => 0)))), (mhdd, .inl (kJ2, 640, .inr (.inl (fun _ => 0)))), (masd, .inl (kJ3, 640, .inr (.inl (fun _ => 0)))), (mpsd, .inl (kJ4, 6400, .inr (.inl (fun _ => 0)))), (msfd, .inl (kJ5, 1280, .inr (.inl (fun _ => 0)))), (mkp, .inl (kZ, 2, .inl (fun _ => 0))), (mtp, .inl (kY, 400, .inl (fun _ => 0)))]) (hS : va_S (fun q : Nat => s.heap.size ≤ q) s.heap H locs) (hl : lv_has ls 4 [(3, .int 0), (2, .ref m0), (1, .ref x0), (0, .ref b)]) : W p l e room_1 s m #[Value.ref b] below meth c H locs 110 27528 (lw_Z below #[Value.ref b] s) (F0 m 1483 ls []) := by
  obtain ⟨hx, hb, hr, hml, hown, htl, hX, hbl, hlocks, hgv⟩ := id C0
  have hb : c.code = cL_law := hb
  have hown : s.vm.findClass RL = some m.cls := hown
  have hts : ∀ w ∈ pw, w.before #[Value.ref b] s = true := fun w h => htl w (pw_tbl h)
  have hN : xN s := xN_of htl
  have hA : ∀ q : Nat, s.heap.size ≤ q → (fun q : Nat => s.heap.size ≤ q) q := fun _ h => h
  have hbA : ¬ (fun q : Nat => s.heap.size ≤ q) b := Nat.not_le.mpr hbl
  refine lv_aload_n hx hb dL_law_1483 rfl (lv_at hl 2 rfl) ?_
  refine lv_aload_n hx hb dL_law_1484 rfl (lv_at hl 3 rfl) ?_
  refine lv_iload_n hx hb dL_law_1485 rfl (lv_at hl 0 rfl) ?_
  refine lv_iconst (v := 1) hx hb dL_law_1486 (by decide +kernel) ?_
  refine lv_iadd hx hb dL_law_1487 ?_
  refine lv_topi (fun z1 ez1 => ?_)
  obtain rfl : z1 = 1 := ez1.trans (by decide +kernel)
  refine va_sld hx hb hX hbl hbA hS (in_d (by decide +kernel)) dL_law_1488 ?_
  refine lv_aload_n hx hb dL_law_1489 rfl (lv_at hl 3 rfl) ?_
  refine lv_iload_n hx hb dL_law_1490 rfl (lv_at hl 0 rfl) ?_
  refine lv_iconst (v := 2) hx hb dL_law_1491 (by decide +kernel) ?_
  refine lv_iadd hx hb dL_law_1492 ?_
  refine lv_topi (fun z2 ez2 => ?_)
  obtain rfl : z2 = 2 := ez2.trans (by decide +kernel)
  refine va_sld hx hb hX hbl hbA hS (in_d (by decide +kernel)) dL_law_1493 ?_
  refine lv_aload_n hx hb dL_law_1494 rfl (lv_at hl 3 rfl) ?_
  refine lv_iload_n hx hb dL_law_1495 rfl (lv_at hl 0 rfl) ?_
  refine lv_iconst (v := 3) hx hb dL_law_1496 (by decide +kernel) ?_
  refine lv_iadd hx hb dL_law_1497 ?_
  refine lv_topi (fun z3 ez3 => ?_)
  obtain rfl : z3 = 3 := ez3.trans (by decide +kernel)
  refine va_sld hx hb hX hbl hbA hS (in_d (by decide +kernel)) dL_law_1498 ?_
  refine lv_aload_n hx hb dL_law_1499 rfl (lv_at hl 3 rfl) ?_
  refine lv_iload_n hx hb dL_law_1500 rfl (lv_at hl 0 rfl) ?_
  refine lv_iconst (v := 4) hx hb dL_law_1501 (by decide +kernel) ?_
  refine lv_iadd hx hb dL_law_1502 ?_
  refine lv_topi (fun z4 ez4 => ?_)
  obtain rfl : z4 = 4 := ez4.trans (by decide +kernel)
  refine va_sld hx hb hX hbl hbA hS (in_d (by decide +kernel)) dL_law_1503 ?_
  have hPc := hP.sub (ws' := [(x0, .inr (6, [.ref tp, .int 0, .ref nw, .ref dr, .ref rd, .ref sc, .ref sk, .ref fl, .ref ps, .int 0, .int 0, .ref sh])), (nw, .inr (1, [.ref nm, .ref nb, .int 0, .int 0, .int 0]))]) [0, 2] rfl
  have hDc := hD.sub (ws' := [(x0, .inr (6, [.ref tp, .int 0, .ref nw, .ref dr, .ref rd, .ref sc, .ref sk, .ref fl, .ref ps, .int 0, .int 0, .ref sh])), (nw, .inr (1, [.ref nm, .ref nb, .int 0, .int 0, .int 0]))]) [0, 2] (by decide) rfl
  have hKc := hK.sub (tys' := []) [] rfl
  refine ro_i (va_runV (As := [.int (xs (1 : Int32).toNatClampNeg), .int (xs (2 : Int32).toNatClampNeg), .int (xs (3 : Int32).toNatClampNeg), .int (xs (4 : Int32).toNatClampNeg)]) (rest := []) ⟨hx, hb, hml, hown, hts⟩ (c_X6_ray l dC dI x0 tp nw dr rd sc sk fl ps sh nm nb H.size (xs (1 : Int32).toNatClampNeg) (xs (2 : Int32).toNatClampNeg) (xs (3 : Int32).toNatClampNeg) (xs (4 : Int32).toNatClampNeg) ) (cwV 4 hts (gV pq1069 pq1070 pq1071 pq74 pq1072) rfl rfl rfl (by decide +kernel) ⟨(Nat.le_of_ble_eq_true rfl), (Nat.le_of_ble_eq_true rfl)⟩) (pc_V hPc hDc hKc hN (va_recv hK hP (ci := 6) (q0 := 0) rfl rfl)) rfl rfl hl.1 rfl (lv_room (Nat.le_of_ble_eq_true rfl)) dL_law_1504 ⟨(Nat.le_of_ble_eq_true rfl), (Nat.le_of_ble_eq_true rfl)⟩) hS hP (fun r5 H locs hr5 hP hS => ?_)
  refine lv_aload_n hx hb dL_law_1507 rfl (lv_at hl 1 rfl) ?_
  refine lv_aload_n hx hb dL_law_1508 rfl (lv_at hl 3 rfl) ?_
  refine lv_iload_n hx hb dL_law_1509 rfl (lv_at hl 0 rfl) ?_
  refine lv_iconst (v := 1) hx hb dL_law_1510 (by decide +kernel) ?_
  refine lv_iadd hx hb dL_law_1511 ?_
  refine lv_topi (fun z6 ez6 => ?_)
  obtain rfl : z6 = 1 := ez6.trans (by decide +kernel)
  refine va_sld hx hb hX hbl hbA hS (in_d (by decide +kernel)) dL_law_1512 ?_
  refine lv_aload_n hx hb dL_law_1513 rfl (lv_at hl 3 rfl) ?_
  refine lv_iload_n hx hb dL_law_1514 rfl (lv_at hl 0 rfl) ?_
  refine lv_iconst (v := 2) hx hb dL_law_1515 (by decide +kernel) ?_
  refine lv_iadd hx hb dL_law_1516 ?_
  refine lv_topi (fun z7 ez7 => ?_)
  obtain rfl : z7 = 2 := ez7.trans (by decide +kernel)
  refine va_sld hx hb hX hbl hbA hS (in_d (by decide +kernel)) dL_law_1517 ?_
  refine lv_aload_n hx hb dL_law_1518 rfl (lv_at hl 3 rfl) ?_
  refine lv_iload_n hx hb dL_law_1519 rfl (lv_at hl 0 rfl) ?_
  refine lv_iconst (v := 3) hx hb dL_law_1520 (by decide +kernel) ?_
  refine lv_iadd hx hb dL_law_1521 ?_
  refine lv_topi (fun z8 ez8 => ?_)
  obtain rfl : z8 = 3 := ez8.trans (by decide +kernel)
  refine va_sld hx hb hX hbl hbA hS (in_d (by decide +kernel)) dL_law_1522 ?_
  refine lv_aload_n hx hb dL_law_1523 rfl (lv_at hl 3 rfl) ?_
  refine lv_iload_n hx hb dL_law_1524 rfl (lv_at hl 0 rfl) ?_
  refine lv_iconst (v := 4) hx hb dL_law_1525 (by decide +kernel) ?_
  refine lv_iadd hx hb dL_law_1526 ?_
  refine lv_topi (fun z9 ez9 => ?_)
  obtain rfl : z9 = 4 := ez9.trans (by decide +kernel)
  refine va_sld hx hb hX hbl hbA hS (in_d (by decide +kernel)) dL_law_1527 ?_
  have hPc := hP.sub (ws' := [(m0, .inr (7, [.ref mnw, .ref mhd, .ref mas, .ref mps, .ref msf, .ref mdt, .ref mhdd, .ref masd, .ref mpsd, .ref msfd, .ref mkp, .int 0, .ref mtp, .int 0, .int 0, .int 0, .int 0, .ref mld, .int 0, .ref mmd, .ref men, .ref mil, .ref mqu, .int 0, .int 0, .ref mbx])), (mnw, .inl (kI, 99, .inl (fun _ => 0)))]) [8, 9] rfl
  have hDc := hD.sub (ws' := [(m0, .inr (7, [.ref mnw, .ref mhd, .ref mas, .ref mps, .ref msf, .ref mdt, .ref mhdd, .ref masd, .ref mpsd, .ref msfd, .ref mkp, .int 0, .ref mtp, .int 0, .int 0, .int 0, .int 0, .ref mld, .int 0, .ref mmd, .ref men, .ref mil, .ref mqu, .int 0, .int 0, .ref mbx])), (mnw, .inl (kI, 99, .inl (fun _ => 0)))]) [8, 9] (by decide) rfl
  have hKc := hK.sub (tys' := [(kI, .int)]) [3] rfl
  refine ro_i (va_runV (As := [.int (xs (1 : Int32).toNatClampNeg), .int (xs (2 : Int32).toNatClampNeg), .int (xs (3 : Int32).toNatClampNeg), .int (xs (4 : Int32).toNatClampNeg)]) (rest := [.int r5]) ⟨hx, hb, hml, hown, hts⟩ (c_X7_ray l dC dI m0 mnw mhd mas mps msf mdt mhdd masd mpsd msfd mkp mtp mld mmd men mil mqu mbx kI H.size (xs (1 : Int32).toNatClampNeg) (xs (2 : Int32).toNatClampNeg) (xs (3 : Int32).toNatClampNeg) (xs (4 : Int32).toNatClampNeg) ) (cwV 4 hts (gV pq1642 pq1643 pq1644 pq81 pq1645) rfl rfl rfl (by decide +kernel) ⟨(Nat.le_of_ble_eq_true rfl), (Nat.le_of_ble_eq_true rfl)⟩) (pc_V hPc hDc hKc hN (va_recv hK hP (ci := 7) (q0 := 8) rfl rfl)) rfl rfl hl.1 rfl (lv_room (Nat.le_of_ble_eq_true rfl)) dL_law_1528 ⟨(Nat.le_of_ble_eq_true rfl), (Nat.le_of_ble_eq_true rfl)⟩) hS hP (fun r10 H locs hr10 hP hS => ?_)
  refine lv_icmp_eq (tgt := 1950) hx hb dL_law_1531 (by decide) (fun c11 => ?_) (fun c11 => absurd (hr5.trans hr10.symm) c11)
  refine lv_iinc (v := 6) (lv' := [(3, .int 6), (2, .ref m0), (1, .ref x0), (0, .ref b)]) hx hb dL_law_1950 hl (k := 0) rfl (by decide +kernel) (by decide) rfl (fun ls hl => ?_)
  refine lv_goto (tgt := 18) hx hb dL_law_1953 (by decide) ?_
  refine lv_iload_n hx hb dL_law_18 rfl (lv_at hl 0 rfl) ?_
  refine lv_aload_n hx hb dL_law_19 rfl (lv_at hl 3 rfl) ?_
  refine va_slen hx hb hX hbl hbA hS dL_law_20 ?_
  refine lv_bipush (v := 6) hx hb dL_law_21 (by decide +kernel) ?_
  refine lv_isub hx hb dL_law_23 ?_
  refine lv_topi (fun z12 ez12 => ?_)
  obtain rfl : z12 = 0 := ez12.trans (by decide +kernel)
  refine lv_icmp_gt (tgt := 1956) hx hb dL_law_24 (by decide) (fun c13 => ?_) (fun c13 => absurd (by decide +kernel) c13)
  refine lv_iconst (v := 1) hx hb dL_law_1956 (by decide +kernel) ?_
  refine va_forget (fun q hq => hS.2.2 q hq) ?_
  refine W.widen (k := 600000) (n := 7302249) (Nat.le_of_ble_eq_true rfl) (Nat.le_of_ble_eq_true rfl) ?_
  refine W.base ?_
  exact lw_ret (Drawn.sameBut.refl s.drawn lw_cs) hx hb hr hlocks dL_law_1957

set_option maxHeartbeats 4000000 in
set_option maxRecDepth 100000 in
theorem lw_case37 {p : Program} {e : Env} {s : State} {m : MethodId} {below : List Frame} {meth : Method} {c : Code} (l : Launch) {b : Nat} {xs : Nat → Int32} {dC : Nat → ClassId} {dI : Nat → Nat → Nat} (C0 : lw_At p s m meth c b 6 xs) {x0 tp nw dr rd sc sk fl ps sh nm nb dm db ss m0 mnw mhd mas mps msf mdt mhdd masd mpsd msfd mkp mtp mld mmd men mil mqu mbx : Nat} {kB kF kG kI kI2 kI3 kI4 kI5 kJ kJ2 kJ3 kJ4 kJ5 kZ kY : ClassId} {H : Heap} {locs : List Loc} {ls : Array Slot} (hK : va_K (dC, dI) vwCl [(kB, .byte), (kF, .object RX1), (kG, .object RX1), (kI, .int), (kI2, .int), (kI3, .int), (kI4, .int), (kI5, .int), (kJ, .long), (kJ2, .long), (kJ3, .long), (kJ4, .long), (kJ5, .long), (kZ, .boolean), (kY, .byte)] s) (hP : va_P (dC, dI) vwCl [(x0, .inr (6, [.ref tp, .int 0, .ref nw, .ref dr, .ref rd, .ref sc, .ref sk, .ref fl, .ref ps, .int 0, .int 0, .ref sh])), (tp, .inl (kB, 400, .inl (fun _ => 0))), (nw, .inr (1, [.ref nm, .ref nb, .int 0, .int 0, .int 0])), (dr, .inr (1, [.ref dm, .ref db, .int 0, .int 0, .int 0])), (rd, .inr (4, [.ref tp, .int 0, .int 0, .int 0, .int 0, .int 0])), (sc, .inr (5, [.ref nw, .ref ss, .int 0, .int (-1), .int 0, .int 0, .int 0, .int 0, .int 0])), (ps, .inl (kF, 10, .inr (.inr (.inr (.inr (fun _ => none)))))), (sh, .inl (kG, 2, .inr (.inr (.inr (.inr (fun _ => none)))))), (m0, .inr (7, [.ref mnw, .ref mhd, .ref mas, .ref mps, .ref msf, .ref mdt, .ref mhdd, .ref masd, .ref mpsd, .ref msfd, .ref mkp, .int 0, .ref mtp, .int 0, .int 0, .int 0, .int 0, .ref mld, .int 0, .ref mmd, .ref men, .ref mil, .ref mqu, .int 0, .int 0, .ref mbx])), (mnw, .inl (kI, 99, .inl (fun _ => 0))), (mhd, .inl (kI2, 99, .inl (fun _ => 0))), (mas, .inl (kI3, 99, .inl (fun _ => 0))), (mps, .inl (kI4, 990, .inl (fun _ => 0))), (msf, .inl (kI5, 198, .inl (fun _ => 0))), (mdt, .inl (kJ, 640, .inr (.inl (fun _ => 0)))), (mhdd, .inl (kJ2, 640, .inr (.inl (fun _ => 0)))), (masd, .inl (kJ3, 640, .inr (.inl (fun _ => 0)))), (mpsd, .inl (kJ4, 6400, .inr (.inl (fun _ => 0)))), (msfd, .inl (kJ5, 1280, .inr (.inl (fun _ => 0)))), (mkp, .inl (kZ, 2, .inl (fun _ => 0))), (mtp, .inl (kY, 400, .inl (fun _ => 0)))] H) (hD : va_D (fun q : Nat => s.heap.size ≤ q) [(x0, .inr (6, [.ref tp, .int 0, .ref nw, .ref dr, .ref rd, .ref sc, .ref sk, .ref fl, .ref ps, .int 0, .int 0, .ref sh])), (tp, .inl (kB, 400, .inl (fun _ => 0))), (nw, .inr (1, [.ref nm, .ref nb, .int 0, .int 0, .int 0])), (dr, .inr (1, [.ref dm, .ref db, .int 0, .int 0, .int 0])), (rd, .inr (4, [.ref tp, .int 0, .int 0, .int 0, .int 0, .int 0])), (sc, .inr (5, [.ref nw, .ref ss, .int 0, .int (-1), .int 0, .int 0, .int 0, .int 0, .int 0])), (ps, .inl (kF, 10, .inr (.inr (.inr (.inr (fun _ => none)))))), (sh, .inl (kG, 2, .inr (.inr (.inr (.inr (fun _ => none)))))), (m0, .inr (7, [.ref mnw, .ref mhd, .ref mas, .ref mps, .ref msf, .ref mdt, .ref mhdd, .ref masd, .ref mpsd, .ref msfd, .ref mkp, .int 0, .ref mtp, .int 0, .int 0, .int 0, .int 0, .ref mld, .int 0, .ref mmd, .ref men, .ref mil, .ref mqu, .int 0, .int 0, .ref mbx])), (mnw, .inl (kI, 99, .inl (fun _ => 0))), (mhd, .inl (kI2, 99, .inl (fun _ => 0))), (mas, .inl (kI3, 99, .inl (fun _ => 0))), (mps, .inl (kI4, 990, .inl (fun _ => 0))), (msf, .inl (kI5, 198, .inl (fun _ => 0))), (mdt, .inl (kJ, 640, .inr (.inl (fun _ => 0)))), (mhdd, .inl (kJ2, 640, .inr (.inl (fun _ => 0)))), (masd, .inl (kJ3, 640, .inr (.inl (fun _ => 0)))), (mpsd, .inl (kJ4, 6400, .inr (.inl (fun _ => 0)))), (msfd, .inl (kJ5, 1280, .inr (.inl (fun _ => 0)))), (mkp, .inl (kZ, 2, .inl (fun _ => 0))), (mtp, .inl (kY, 400, .inl (fun _ => 0)))]) (hS : va_S (fun q : Nat => s.heap.size ≤ q) s.heap H locs) (hl : lv_has ls 4 [(3, .int 0), (2, .ref m0), (1, .ref x0), (0, .ref b)]) : W p l e room_1 s m #[Value.ref b] below meth c H locs 110 27528 (lw_Z below #[Value.ref b] s) (F0 m 1536 ls []) := by
  obtain ⟨hx, hb, hr, hml, hown, htl, hX, hbl, hlocks, hgv⟩ := id C0
  have hb : c.code = cL_law := hb
  have hown : s.vm.findClass RL = some m.cls := hown
  have hts : ∀ w ∈ pw, w.before #[Value.ref b] s = true := fun w h => htl w (pw_tbl h)
  have hN : xN s := xN_of htl
  have hA : ∀ q : Nat, s.heap.size ≤ q → (fun q : Nat => s.heap.size ≤ q) q := fun _ h => h
  have hbA : ¬ (fun q : Nat => s.heap.size ≤ q) b := Nat.not_le.mpr hbl
  refine lv_aload_n hx hb dL_law_1536 rfl (lv_at hl 2 rfl) ?_
  refine lv_aload_n hx hb dL_law_1537 rfl (lv_at hl 3 rfl) ?_
  refine lv_iload_n hx hb dL_law_1538 rfl (lv_at hl 0 rfl) ?_
  refine lv_iconst (v := 1) hx hb dL_law_1539 (by decide +kernel) ?_
  refine lv_iadd hx hb dL_law_1540 ?_
  refine lv_topi (fun z1 ez1 => ?_)
  obtain rfl : z1 = 1 := ez1.trans (by decide +kernel)
  refine va_sld hx hb hX hbl hbA hS (in_d (by decide +kernel)) dL_law_1541 ?_
  refine lv_aload_n hx hb dL_law_1542 rfl (lv_at hl 3 rfl) ?_
  refine lv_iload_n hx hb dL_law_1543 rfl (lv_at hl 0 rfl) ?_
  refine lv_iconst (v := 2) hx hb dL_law_1544 (by decide +kernel) ?_
  refine lv_iadd hx hb dL_law_1545 ?_
  refine lv_topi (fun z2 ez2 => ?_)
  obtain rfl : z2 = 2 := ez2.trans (by decide +kernel)
  refine va_sld hx hb hX hbl hbA hS (in_d (by decide +kernel)) dL_law_1546 ?_
  have hPc := hP.sub (ws' := [(x0, .inr (6, [.ref tp, .int 0, .ref nw, .ref dr, .ref rd, .ref sc, .ref sk, .ref fl, .ref ps, .int 0, .int 0, .ref sh])), (nw, .inr (1, [.ref nm, .ref nb, .int 0, .int 0, .int 0]))]) [0, 2] rfl
  have hDc := hD.sub (ws' := [(x0, .inr (6, [.ref tp, .int 0, .ref nw, .ref dr, .ref rd, .ref sc, .ref sk, .ref fl, .ref ps, .int 0, .int 0, .ref sh])), (nw, .inr (1, [.ref nm, .ref nb, .int 0, .int 0, .int 0]))]) [0, 2] (by decide) rfl
  have hKc := hK.sub (tys' := []) [] rfl
  refine ro_i (va_runV (As := [.int (xs (1 : Int32).toNatClampNeg), .int (xs (2 : Int32).toNatClampNeg)]) (rest := []) ⟨hx, hb, hml, hown, hts⟩ (c_X6_seen l dC dI x0 tp nw dr rd sc sk fl ps sh nm nb H.size (xs (1 : Int32).toNatClampNeg) (xs (2 : Int32).toNatClampNeg) ) (cwV 2 hts (gV pq1073 pq1074 pq1075 pq74 pq1076) rfl rfl rfl (by decide +kernel) ⟨(Nat.le_of_ble_eq_true rfl), (Nat.le_of_ble_eq_true rfl)⟩) (pc_V hPc hDc hKc hN (va_recv hK hP (ci := 6) (q0 := 0) rfl rfl)) rfl rfl hl.1 rfl (lv_room (Nat.le_of_ble_eq_true rfl)) dL_law_1547 ⟨(Nat.le_of_ble_eq_true rfl), (Nat.le_of_ble_eq_true rfl)⟩) hS hP (fun r3 H locs hr3 hP hS => ?_)
  subst hr3
  refine lv_aload_n hx hb dL_law_1550 rfl (lv_at hl 1 rfl) ?_
  refine lv_aload_n hx hb dL_law_1551 rfl (lv_at hl 3 rfl) ?_
  refine lv_iload_n hx hb dL_law_1552 rfl (lv_at hl 0 rfl) ?_
  refine lv_iconst (v := 1) hx hb dL_law_1553 (by decide +kernel) ?_
  refine lv_iadd hx hb dL_law_1554 ?_
  refine lv_topi (fun z4 ez4 => ?_)
  obtain rfl : z4 = 1 := ez4.trans (by decide +kernel)
  refine va_sld hx hb hX hbl hbA hS (in_d (by decide +kernel)) dL_law_1555 ?_
  refine lv_aload_n hx hb dL_law_1556 rfl (lv_at hl 3 rfl) ?_
  refine lv_iload_n hx hb dL_law_1557 rfl (lv_at hl 0 rfl) ?_
  refine lv_iconst (v := 2) hx hb dL_law_1558 (by decide +kernel) ?_
  refine lv_iadd hx hb dL_law_1559 ?_
  refine lv_topi (fun z5 ez5 => ?_)
  obtain rfl : z5 = 2 := ez5.trans (by decide +kernel)
  refine va_sld hx hb hX hbl hbA hS (in_d (by decide +kernel)) dL_law_1560 ?_
  have hPc := hP.sub (ws' := [(m0, .inr (7, [.ref mnw, .ref mhd, .ref mas, .ref mps, .ref msf, .ref mdt, .ref mhdd, .ref masd, .ref mpsd, .ref msfd, .ref mkp, .int 0, .ref mtp, .int 0, .int 0, .int 0, .int 0, .ref mld, .int 0, .ref mmd, .ref men, .ref mil, .ref mqu, .int 0, .int 0, .ref mbx])), (mnw, .inl (kI, 99, .inl (fun _ => 0)))]) [8, 9] rfl
  have hDc := hD.sub (ws' := [(m0, .inr (7, [.ref mnw, .ref mhd, .ref mas, .ref mps, .ref msf, .ref mdt, .ref mhdd, .ref masd, .ref mpsd, .ref msfd, .ref mkp, .int 0, .ref mtp, .int 0, .int 0, .int 0, .int 0, .ref mld, .int 0, .ref mmd, .ref men, .ref mil, .ref mqu, .int 0, .int 0, .ref mbx])), (mnw, .inl (kI, 99, .inl (fun _ => 0)))]) [8, 9] (by decide) rfl
  have hKc := hK.sub (tys' := [(kI, .int)]) [3] rfl
  refine ro_i (va_runV (As := [.int (xs (1 : Int32).toNatClampNeg), .int (xs (2 : Int32).toNatClampNeg)]) (rest := [.int (-1)]) ⟨hx, hb, hml, hown, hts⟩ (c_X7_seen l dC dI m0 mnw mhd mas mps msf mdt mhdd masd mpsd msfd mkp mtp mld mmd men mil mqu mbx kI H.size (xs (1 : Int32).toNatClampNeg) (xs (2 : Int32).toNatClampNeg) ) (cwV 2 hts (gV pq1649 pq1650 pq1651 pq81 pq1652) rfl rfl rfl (by decide +kernel) ⟨(Nat.le_of_ble_eq_true rfl), (Nat.le_of_ble_eq_true rfl)⟩) (pc_V hPc hDc hKc hN (va_recv hK hP (ci := 7) (q0 := 8) rfl rfl)) rfl rfl hl.1 rfl (lv_room (Nat.le_of_ble_eq_true rfl)) dL_law_1561 ⟨(Nat.le_of_ble_eq_true rfl), (Nat.le_of_ble_eq_true rfl)⟩) hS hP (fun r6 H locs hr6 hP hS => ?_)
  subst hr6
  refine lv_icmp_eq (tgt := 1950) hx hb dL_law_1564 (by decide) (fun c7 => ?_) (fun c7 => absurd (by decide +kernel) c7)
  refine lv_iinc (v := 6) (lv' := [(3, .int 6), (2, .ref m0), (1, .ref x0), (0, .ref b)]) hx hb dL_law_1950 hl (k := 0) rfl (by decide +kernel) (by decide) rfl (fun ls hl => ?_)
  refine lv_goto (tgt := 18) hx hb dL_law_1953 (by decide) ?_
  refine lv_iload_n hx hb dL_law_18 rfl (lv_at hl 0 rfl) ?_
  refine lv_aload_n hx hb dL_law_19 rfl (lv_at hl 3 rfl) ?_
  refine va_slen hx hb hX hbl hbA hS dL_law_20 ?_
  refine lv_bipush (v := 6) hx hb dL_law_21 (by decide +kernel) ?_
  refine lv_isub hx hb dL_law_23 ?_
  refine lv_topi (fun z8 ez8 => ?_)
  obtain rfl : z8 = 0 := ez8.trans (by decide +kernel)
  refine lv_icmp_gt (tgt := 1956) hx hb dL_law_24 (by decide) (fun c9 => ?_) (fun c9 => absurd (by decide +kernel) c9)
  refine lv_iconst (v := 1) hx hb dL_law_1956 (by decide +kernel) ?_
  refine va_forget (fun q hq => hS.2.2 q hq) ?_
  refine W.widen (k := 600000) (n := 7302249) (Nat.le_of_ble_eq_true rfl) (Nat.le_of_ble_eq_true rfl) ?_
  refine W.base ?_
  exact lw_ret (Drawn.sameBut.refl s.drawn lw_cs) hx hb hr hlocks dL_law_1957

set_option maxHeartbeats 4000000 in
set_option maxRecDepth 100000 in
theorem lw_case38 {p : Program} {e : Env} {s : State} {m : MethodId} {below : List Frame} {meth : Method} {c : Code} (l : Launch) {b : Nat} {xs : Nat → Int32} {dC : Nat → ClassId} {dI : Nat → Nat → Nat} (C0 : lw_At p s m meth c b 6 xs) {x0 tp nw dr rd sc sk fl ps sh nm nb dm db ss m0 mnw mhd mas mps msf mdt mhdd masd mpsd msfd mkp mtp mld mmd men mil mqu mbx : Nat} {kB kF kG kI kI2 kI3 kI4 kI5 kJ kJ2 kJ3 kJ4 kJ5 kZ kY : ClassId} {H : Heap} {locs : List Loc} {ls : Array Slot} (hK : va_K (dC, dI) vwCl [(kB, .byte), (kF, .object RX1), (kG, .object RX1), (kI, .int), (kI2, .int), (kI3, .int), (kI4, .int), (kI5, .int), (kJ, .long), (kJ2, .long), (kJ3, .long), (kJ4, .long), (kJ5, .long), (kZ, .boolean), (kY, .byte)] s) (hP : va_P (dC, dI) vwCl [(x0, .inr (6, [.ref tp, .int 0, .ref nw, .ref dr, .ref rd, .ref sc, .ref sk, .ref fl, .ref ps, .int 0, .int 0, .ref sh])), (tp, .inl (kB, 400, .inl (fun _ => 0))), (nw, .inr (1, [.ref nm, .ref nb, .int 0, .int 0, .int 0])), (dr, .inr (1, [.ref dm, .ref db, .int 0, .int 0, .int 0])), (rd, .inr (4, [.ref tp, .int 0, .int 0, .int 0, .int 0, .int 0])), (sc, .inr (5, [.ref nw, .ref ss, .int 0, .int (-1), .int 0, .int 0, .int 0, .int 0, .int 0])), (ps, .inl (kF, 10, .inr (.inr (.inr (.inr (fun _ => none)))))), (sh, .inl (kG, 2, .inr (.inr (.inr (.inr (fun _ => none)))))), (m0, .inr (7, [.ref mnw, .ref mhd, .ref mas, .ref mps, .ref msf, .ref mdt, .ref mhdd, .ref masd, .ref mpsd, .ref msfd, .ref mkp, .int 0, .ref mtp, .int 0, .int 0, .int 0, .int 0, .ref mld, .int 0, .ref mmd, .ref men, .ref mil, .ref mqu, .int 0, .int 0, .ref mbx])), (mnw, .inl (kI, 99, .inl (fun _ => 0))), (mhd, .inl (kI2, 99, .inl (fun _ => 0))), (mas, .inl (kI3, 99, .inl (fun _ => 0))), (mps, .inl (kI4, 990, .inl (fun _ => 0))), (msf, .inl (kI5, 198, .inl (fun _ => 0))), (mdt, .inl (kJ, 640, .inr (.inl (fun _ => 0)))), (mhdd, .inl (kJ2, 640, .inr (.inl (fun _ => 0)))), (masd, .inl (kJ3, 640, .inr (.inl (fun _ => 0)))), (mpsd, .inl (kJ4, 6400, .inr (.inl (fun _ => 0)))), (msfd, .inl (kJ5, 1280, .inr (.inl (fun _ => 0)))), (mkp, .inl (kZ, 2, .inl (fun _ => 0))), (mtp, .inl (kY, 400, .inl (fun _ => 0)))] H) (hD : va_D (fun q : Nat => s.heap.size ≤ q) [(x0, .inr (6, [.ref tp, .int 0, .ref nw, .ref dr, .ref rd, .ref sc, .ref sk, .ref fl, .ref ps, .int 0, .int 0, .ref sh])), (tp, .inl (kB, 400, .inl (fun _ => 0))), (nw, .inr (1, [.ref nm, .ref nb, .int 0, .int 0, .int 0])), (dr, .inr (1, [.ref dm, .ref db, .int 0, .int 0, .int 0])), (rd, .inr (4, [.ref tp, .int 0, .int 0, .int 0, .int 0, .int 0])), (sc, .inr (5, [.ref nw, .ref ss, .int 0, .int (-1), .int 0, .int 0, .int 0, .int 0, .int 0])), (ps, .inl (kF, 10, .inr (.inr (.inr (.inr (fun _ => none)))))), (sh, .inl (kG, 2, .inr (.inr (.inr (.inr (fun _ => none)))))), (m0, .inr (7, [.ref mnw, .ref mhd, .ref mas, .ref mps, .ref msf, .ref mdt, .ref mhdd, .ref masd, .ref mpsd, .ref msfd, .ref mkp, .int 0, .ref mtp, .int 0, .int 0, .int 0, .int 0, .ref mld, .int 0, .ref mmd, .ref men, .ref mil, .ref mqu, .int 0, .int 0, .ref mbx])), (mnw, .inl (kI, 99, .inl (fun _ => 0))), (mhd, .inl (kI2, 99, .inl (fun _ => 0))), (mas, .inl (kI3, 99, .inl (fun _ => 0))), (mps, .inl (kI4, 990, .inl (fun _ => 0))), (msf, .inl (kI5, 198, .inl (fun _ => 0))), (mdt, .inl (kJ, 640, .inr (.inl (fun _ => 0)))), (mhdd, .inl (kJ2, 640, .inr (.inl (fun _ => 0)))), (masd, .inl (kJ3, 640, .inr (.inl (fun _ => 0)))), (mpsd, .inl (kJ4, 6400, .inr (.inl (fun _ => 0)))), (msfd, .inl (kJ5, 1280, .inr (.inl (fun _ => 0)))), (mkp, .inl (kZ, 2, .inl (fun _ => 0))), (mtp, .inl (kY, 400, .inl (fun _ => 0)))]) (hS : va_S (fun q : Nat => s.heap.size ≤ q) s.heap H locs) (hl : lv_has ls 4 [(3, .int 0), (2, .ref m0), (1, .ref x0), (0, .ref b)]) : W p l e room_1 s m #[Value.ref b] below meth c H locs 110 27528 (lw_Z below #[Value.ref b] s) (F0 m 1569 ls []) := by
  obtain ⟨hx, hb, hr, hml, hown, htl, hX, hbl, hlocks, hgv⟩ := id C0
  have hb : c.code = cL_law := hb
  have hown : s.vm.findClass RL = some m.cls := hown
  have hts : ∀ w ∈ pw, w.before #[Value.ref b] s = true := fun w h => htl w (pw_tbl h)
  have hN : xN s := xN_of htl
  have hA : ∀ q : Nat, s.heap.size ≤ q → (fun q : Nat => s.heap.size ≤ q) q := fun _ h => h
  have hbA : ¬ (fun q : Nat => s.heap.size ≤ q) b := Nat.not_le.mpr hbl
  refine lv_aload_n hx hb dL_law_1569 rfl (lv_at hl 2 rfl) ?_
  refine lv_aload_n hx hb dL_law_1570 rfl (lv_at hl 3 rfl) ?_
  refine lv_iload_n hx hb dL_law_1571 rfl (lv_at hl 0 rfl) ?_
  refine lv_iconst (v := 1) hx hb dL_law_1572 (by decide +kernel) ?_
  refine lv_iadd hx hb dL_law_1573 ?_
  refine lv_topi (fun z1 ez1 => ?_)
  obtain rfl : z1 = 1 := ez1.trans (by decide +kernel)
  refine va_sld hx hb hX hbl hbA hS (in_d (by decide +kernel)) dL_law_1574 ?_
  refine lv_aload_n hx hb dL_law_1575 rfl (lv_at hl 3 rfl) ?_
  refine lv_iload_n hx hb dL_law_1576 rfl (lv_at hl 0 rfl) ?_
  refine lv_iconst (v := 2) hx hb dL_law_1577 (by decide +kernel) ?_
  refine lv_iadd hx hb dL_law_1578 ?_
  refine lv_topi (fun z2 ez2 => ?_)
  obtain rfl : z2 = 2 := ez2.trans (by decide +kernel)
  refine va_sld hx hb hX hbl hbA hS (in_d (by decide +kernel)) dL_law_1579 ?_
  refine lv_aload_n hx hb dL_law_1580 rfl (lv_at hl 3 rfl) ?_
  refine lv_iload_n hx hb dL_law_1581 rfl (lv_at hl 0 rfl) ?_
  refine lv_iconst (v := 3) hx hb dL_law_1582 (by decide +kernel) ?_
  refine lv_iadd hx hb dL_law_1583 ?_
  refine lv_topi (fun z3 ez3 => ?_)
  obtain rfl : z3 = 3 := ez3.trans (by decide +kernel)
  refine va_sld hx hb hX hbl hbA hS (in_d (by decide +kernel)) dL_law_1584 ?_
  have hPc := hP.sub (ws' := [(x0, .inr (6, [.ref tp, .int 0, .ref nw, .ref dr, .ref rd, .ref sc, .ref sk, .ref fl, .ref ps, .int 0, .int 0, .ref sh])), (nw, .inr (1, [.ref nm, .ref nb, .int 0, .int 0, .int 0]))]) [0, 2] rfl
  have hDc := hD.sub (ws' := [(x0, .inr (6, [.ref tp, .int 0, .ref nw, .ref dr, .ref rd, .ref sc, .ref sk, .ref fl, .ref ps, .int 0, .int 0, .ref sh])), (nw, .inr (1, [.ref nm, .ref nb, .int 0, .int 0, .int 0]))]) [0, 2] (by decide) rfl
  have hKc := hK.sub (tys' := []) [] rfl
  refine ro_i (va_runV (As := [.int (xs (1 : Int32).toNatClampNeg), .int (xs (2 : Int32).toNatClampNeg), .int (xs (3 : Int32).toNatClampNeg)]) (rest := []) ⟨hx, hb, hml, hown, hts⟩ (c_X6_island l dC dI x0 tp nw dr rd sc sk fl ps sh nm nb H.size (xs (1 : Int32).toNatClampNeg) (xs (2 : Int32).toNatClampNeg) (xs (3 : Int32).toNatClampNeg) ) (cwV 3 hts (gV pq886 pq887 pq888 pq74 pq889) rfl rfl rfl (by decide +kernel) ⟨(Nat.le_of_ble_eq_true rfl), (Nat.le_of_ble_eq_true rfl)⟩) (pc_V hPc hDc hKc hN (va_recv hK hP (ci := 6) (q0 := 0) rfl rfl)) rfl rfl hl.1 rfl (lv_room (Nat.le_of_ble_eq_true rfl)) dL_law_1585 ⟨(Nat.le_of_ble_eq_true rfl), (Nat.le_of_ble_eq_true rfl)⟩) hS hP (fun r4 H locs hr4 hP hS => ?_)
  subst hr4
  refine lv_aload_n hx hb dL_law_1588 rfl (lv_at hl 1 rfl) ?_
  refine lv_aload_n hx hb dL_law_1589 rfl (lv_at hl 3 rfl) ?_
  refine lv_iload_n hx hb dL_law_1590 rfl (lv_at hl 0 rfl) ?_
  refine lv_iconst (v := 1) hx hb dL_law_1591 (by decide +kernel) ?_
  refine lv_iadd hx hb dL_law_1592 ?_
  refine lv_topi (fun z5 ez5 => ?_)
  obtain rfl : z5 = 1 := ez5.trans (by decide +kernel)
  refine va_sld hx hb hX hbl hbA hS (in_d (by decide +kernel)) dL_law_1593 ?_
  refine lv_aload_n hx hb dL_law_1594 rfl (lv_at hl 3 rfl) ?_
  refine lv_iload_n hx hb dL_law_1595 rfl (lv_at hl 0 rfl) ?_
  refine lv_iconst (v := 2) hx hb dL_law_1596 (by decide +kernel) ?_
  refine lv_iadd hx hb dL_law_1597 ?_
  refine lv_topi (fun z6 ez6 => ?_)
  obtain rfl : z6 = 2 := ez6.trans (by decide +kernel)
  refine va_sld hx hb hX hbl hbA hS (in_d (by decide +kernel)) dL_law_1598 ?_
  refine lv_aload_n hx hb dL_law_1599 rfl (lv_at hl 3 rfl) ?_
  refine lv_iload_n hx hb dL_law_1600 rfl (lv_at hl 0 rfl) ?_
  refine lv_iconst (v := 3) hx hb dL_law_1601 (by decide +kernel) ?_
  refine lv_iadd hx hb dL_law_1602 ?_
  refine lv_topi (fun z7 ez7 => ?_)
  obtain rfl : z7 = 3 := ez7.trans (by decide +kernel)
  refine va_sld hx hb hX hbl hbA hS (in_d (by decide +kernel)) dL_law_1603 ?_
  have hPc := hP.sub (ws' := [(m0, .inr (7, [.ref mnw, .ref mhd, .ref mas, .ref mps, .ref msf, .ref mdt, .ref mhdd, .ref masd, .ref mpsd, .ref msfd, .ref mkp, .int 0, .ref mtp, .int 0, .int 0, .int 0, .int 0, .ref mld, .int 0, .ref mmd, .ref men, .ref mil, .ref mqu, .int 0, .int 0, .ref mbx])), (mnw, .inl (kI, 99, .inl (fun _ => 0)))]) [8, 9] rfl
  have hDc := hD.sub (ws' := [(m0, .inr (7, [.ref mnw, .ref mhd, .ref mas, .ref mps, .ref msf, .ref mdt, .ref mhdd, .ref masd, .ref mpsd, .ref msfd, .ref mkp, .int 0, .ref mtp, .int 0, .int 0, .int 0, .int 0, .ref mld, .int 0, .ref mmd, .ref men, .ref mil, .ref mqu, .int 0, .int 0, .ref mbx])), (mnw, .inl (kI, 99, .inl (fun _ => 0)))]) [8, 9] (by decide) rfl
  have hKc := hK.sub (tys' := [(kI, .int)]) [3] rfl
  refine ro_i (va_runV (As := [.int (xs (1 : Int32).toNatClampNeg), .int (xs (2 : Int32).toNatClampNeg), .int (xs (3 : Int32).toNatClampNeg)]) (rest := [.int (-1)]) ⟨hx, hb, hml, hown, hts⟩ (c_X7_island l dC dI m0 mnw mhd mas mps msf mdt mhdd masd mpsd msfd mkp mtp mld mmd men mil mqu mbx kI H.size (xs (1 : Int32).toNatClampNeg) (xs (2 : Int32).toNatClampNeg) (xs (3 : Int32).toNatClampNeg) ) (cwV 3 hts (gV pq1653 pq1654 pq1655 pq81 pq1656) rfl rfl rfl (by decide +kernel) ⟨(Nat.le_of_ble_eq_true rfl), (Nat.le_of_ble_eq_true rfl)⟩) (pc_V hPc hDc hKc hN (va_recv hK hP (ci := 7) (q0 := 8) rfl rfl)) rfl rfl hl.1 rfl (lv_room (Nat.le_of_ble_eq_true rfl)) dL_law_1604 ⟨(Nat.le_of_ble_eq_true rfl), (Nat.le_of_ble_eq_true rfl)⟩) hS hP (fun r8 H locs hr8 hP hS => ?_)
  subst hr8
  refine lv_icmp_eq (tgt := 1950) hx hb dL_law_1607 (by decide) (fun c9 => ?_) (fun c9 => absurd (by decide +kernel) c9)
  refine lv_iinc (v := 6) (lv' := [(3, .int 6), (2, .ref m0), (1, .ref x0), (0, .ref b)]) hx hb dL_law_1950 hl (k := 0) rfl (by decide +kernel) (by decide) rfl (fun ls hl => ?_)
  refine lv_goto (tgt := 18) hx hb dL_law_1953 (by decide) ?_
  refine lv_iload_n hx hb dL_law_18 rfl (lv_at hl 0 rfl) ?_
  refine lv_aload_n hx hb dL_law_19 rfl (lv_at hl 3 rfl) ?_
  refine va_slen hx hb hX hbl hbA hS dL_law_20 ?_
  refine lv_bipush (v := 6) hx hb dL_law_21 (by decide +kernel) ?_
  refine lv_isub hx hb dL_law_23 ?_
  refine lv_topi (fun z10 ez10 => ?_)
  obtain rfl : z10 = 0 := ez10.trans (by decide +kernel)
  refine lv_icmp_gt (tgt := 1956) hx hb dL_law_24 (by decide) (fun c11 => ?_) (fun c11 => absurd (by decide +kernel) c11)
  refine lv_iconst (v := 1) hx hb dL_law_1956 (by decide +kernel) ?_
  refine va_forget (fun q hq => hS.2.2 q hq) ?_
  refine W.widen (k := 600000) (n := 7302249) (Nat.le_of_ble_eq_true rfl) (Nat.le_of_ble_eq_true rfl) ?_
  refine W.base ?_
  exact lw_ret (Drawn.sameBut.refl s.drawn lw_cs) hx hb hr hlocks dL_law_1957

set_option maxHeartbeats 4000000 in
set_option maxRecDepth 100000 in
theorem lw_case39 {p : Program} {e : Env} {s : State} {m : MethodId} {below : List Frame} {meth : Method} {c : Code} (l : Launch) {b : Nat} {xs : Nat → Int32} {dC : Nat → ClassId} {dI : Nat → Nat → Nat} (C0 : lw_At p s m meth c b 6 xs) {x0 tp nw dr rd sc sk fl ps sh nm nb dm db ss m0 mnw mhd mas mps msf mdt mhdd masd mpsd msfd mkp mtp mld mmd men mil mqu mbx : Nat} {kB kF kG kI kI2 kI3 kI4 kI5 kJ kJ2 kJ3 kJ4 kJ5 kZ kY : ClassId} {H : Heap} {locs : List Loc} {ls : Array Slot} (hK : va_K (dC, dI) vwCl [(kB, .byte), (kF, .object RX1), (kG, .object RX1), (kI, .int), (kI2, .int), (kI3, .int), (kI4, .int), (kI5, .int), (kJ, .long), (kJ2, .long), (kJ3, .long), (kJ4, .long), (kJ5, .long), (kZ, .boolean), (kY, .byte)] s) (hP : va_P (dC, dI) vwCl [(x0, .inr (6, [.ref tp, .int 0, .ref nw, .ref dr, .ref rd, .ref sc, .ref sk, .ref fl, .ref ps, .int 0, .int 0, .ref sh])), (tp, .inl (kB, 400, .inl (fun _ => 0))), (nw, .inr (1, [.ref nm, .ref nb, .int 0, .int 0, .int 0])), (dr, .inr (1, [.ref dm, .ref db, .int 0, .int 0, .int 0])), (rd, .inr (4, [.ref tp, .int 0, .int 0, .int 0, .int 0, .int 0])), (sc, .inr (5, [.ref nw, .ref ss, .int 0, .int (-1), .int 0, .int 0, .int 0, .int 0, .int 0])), (ps, .inl (kF, 10, .inr (.inr (.inr (.inr (fun _ => none)))))), (sh, .inl (kG, 2, .inr (.inr (.inr (.inr (fun _ => none)))))), (m0, .inr (7, [.ref mnw, .ref mhd, .ref mas, .ref mps, .ref msf, .ref mdt, .ref mhdd, .ref masd, .ref mpsd, .ref msfd, .ref mkp, .int 0, .ref mtp, .int 0, .int 0, .int 0, .int 0, .ref mld, .int 0, .ref mmd, .ref men, .ref mil, .ref mqu, .int 0, .int 0, .ref mbx])), (mnw, .inl (kI, 99, .inl (fun _ => 0))), (mhd, .inl (kI2, 99, .inl (fun _ => 0))), (mas, .inl (kI3, 99, .inl (fun _ => 0))), (mps, .inl (kI4, 990, .inl (fun _ => 0))), (msf, .inl (kI5, 198, .inl (fun _ => 0))), (mdt, .inl (kJ, 640, .inr (.inl (fun _ => 0)))), (mhdd, .inl (kJ2, 640, .inr (.inl (fun _ => 0)))), (masd, .inl (kJ3, 640, .inr (.inl (fun _ => 0)))), (mpsd, .inl (kJ4, 6400, .inr (.inl (fun _ => 0)))), (msfd, .inl (kJ5, 1280, .inr (.inl (fun _ => 0)))), (mkp, .inl (kZ, 2, .inl (fun _ => 0))), (mtp, .inl (kY, 400, .inl (fun _ => 0)))] H) (hD : va_D (fun q : Nat => s.heap.size ≤ q) [(x0, .inr (6, [.ref tp, .int 0, .ref nw, .ref dr, .ref rd, .ref sc, .ref sk, .ref fl, .ref ps, .int 0, .int 0, .ref sh])), (tp, .inl (kB, 400, .inl (fun _ => 0))), (nw, .inr (1, [.ref nm, .ref nb, .int 0, .int 0, .int 0])), (dr, .inr (1, [.ref dm, .ref db, .int 0, .int 0, .int 0])), (rd, .inr (4, [.ref tp, .int 0, .int 0, .int 0, .int 0, .int 0])), (sc, .inr (5, [.ref nw, .ref ss, .int 0, .int (-1), .int 0, .int 0, .int 0, .int 0, .int 0])), (ps, .inl (kF, 10, .inr (.inr (.inr (.inr (fun _ => none)))))), (sh, .inl (kG, 2, .inr (.inr (.inr (.inr (fun _ => none)))))), (m0, .inr (7, [.ref mnw, .ref mhd, .ref mas, .ref mps, .ref msf, .ref mdt, .ref mhdd, .ref masd, .ref mpsd, .ref msfd, .ref mkp, .int 0, .ref mtp, .int 0, .int 0, .int 0, .int 0, .ref mld, .int 0, .ref mmd, .ref men, .ref mil, .ref mqu, .int 0, .int 0, .ref mbx])), (mnw, .inl (kI, 99, .inl (fun _ => 0))), (mhd, .inl (kI2, 99, .inl (fun _ => 0))), (mas, .inl (kI3, 99, .inl (fun _ => 0))), (mps, .inl (kI4, 990, .inl (fun _ => 0))), (msf, .inl (kI5, 198, .inl (fun _ => 0))), (mdt, .inl (kJ, 640, .inr (.inl (fun _ => 0)))), (mhdd, .inl (kJ2, 640, .inr (.inl (fun _ => 0)))), (masd, .inl (kJ3, 640, .inr (.inl (fun _ => 0)))), (mpsd, .inl (kJ4, 6400, .inr (.inl (fun _ => 0)))), (msfd, .inl (kJ5, 1280, .inr (.inl (fun _ => 0)))), (mkp, .inl (kZ, 2, .inl (fun _ => 0))), (mtp, .inl (kY, 400, .inl (fun _ => 0)))]) (hS : va_S (fun q : Nat => s.heap.size ≤ q) s.heap H locs) (hl : lv_has ls 4 [(3, .int 0), (2, .ref m0), (1, .ref x0), (0, .ref b)]) : W p l e room_1 s m #[Value.ref b] below meth c H locs 110 27528 (lw_Z below #[Value.ref b] s) (F0 m 1612 ls []) := by
  obtain ⟨hx, hb, hr, hml, hown, htl, hX, hbl, hlocks, hgv⟩ := id C0
  have hb : c.code = cL_law := hb
  have hown : s.vm.findClass RL = some m.cls := hown
  have hts : ∀ w ∈ pw, w.before #[Value.ref b] s = true := fun w h => htl w (pw_tbl h)
  have hN : xN s := xN_of htl
  have hA : ∀ q : Nat, s.heap.size ≤ q → (fun q : Nat => s.heap.size ≤ q) q := fun _ h => h
  have hbA : ¬ (fun q : Nat => s.heap.size ≤ q) b := Nat.not_le.mpr hbl
  refine lv_aload_n hx hb dL_law_1612 rfl (lv_at hl 2 rfl) ?_
  refine lv_aload_n hx hb dL_law_1613 rfl (lv_at hl 3 rfl) ?_
  refine lv_iload_n hx hb dL_law_1614 rfl (lv_at hl 0 rfl) ?_
  refine lv_iconst (v := 1) hx hb dL_law_1615 (by decide +kernel) ?_
  refine lv_iadd hx hb dL_law_1616 ?_
  refine lv_topi (fun z1 ez1 => ?_)
  obtain rfl : z1 = 1 := ez1.trans (by decide +kernel)
  refine va_sld hx hb hX hbl hbA hS (in_d (by decide +kernel)) dL_law_1617 ?_
  refine lv_aload_n hx hb dL_law_1618 rfl (lv_at hl 3 rfl) ?_
  refine lv_iload_n hx hb dL_law_1619 rfl (lv_at hl 0 rfl) ?_
  refine lv_iconst (v := 2) hx hb dL_law_1620 (by decide +kernel) ?_
  refine lv_iadd hx hb dL_law_1621 ?_
  refine lv_topi (fun z2 ez2 => ?_)
  obtain rfl : z2 = 2 := ez2.trans (by decide +kernel)
  refine va_sld hx hb hX hbl hbA hS (in_d (by decide +kernel)) dL_law_1622 ?_
  have hPc := hP.sub (ws' := [(x0, .inr (6, [.ref tp, .int 0, .ref nw, .ref dr, .ref rd, .ref sc, .ref sk, .ref fl, .ref ps, .int 0, .int 0, .ref sh])), (nw, .inr (1, [.ref nm, .ref nb, .int 0, .int 0, .int 0]))]) [0, 2] rfl
  have hDc := hD.sub (ws' := [(x0, .inr (6, [.ref tp, .int 0, .ref nw, .ref dr, .ref rd, .ref sc, .ref sk, .ref fl, .ref ps, .int 0, .int 0, .ref sh])), (nw, .inr (1, [.ref nm, .ref nb, .int 0, .int 0, .int 0]))]) [0, 2] (by decide) rfl
  have hKc := hK.sub (tys' := []) [] rfl
  refine ro_i (va_runV (As := [.int (xs (1 : Int32).toNatClampNeg), .int (xs (2 : Int32).toNatClampNeg)]) (rest := []) ⟨hx, hb, hml, hown, hts⟩ (c_X6_shifts l dC dI x0 tp nw dr rd sc sk fl ps sh nm nb H.size (xs (1 : Int32).toNatClampNeg) (xs (2 : Int32).toNatClampNeg) ) (cwV 2 hts (gV pq894 pq895 pq896 pq74 pq897) rfl rfl rfl (by decide +kernel) ⟨(Nat.le_of_ble_eq_true rfl), (Nat.le_of_ble_eq_true rfl)⟩) (pc_V hPc hDc hKc hN (va_recv hK hP (ci := 6) (q0 := 0) rfl rfl)) rfl rfl hl.1 rfl (lv_room (Nat.le_of_ble_eq_true rfl)) dL_law_1623 ⟨(Nat.le_of_ble_eq_true rfl), (Nat.le_of_ble_eq_true rfl)⟩) hS hP (fun r3 H locs hr3 hP hS => ?_)
  subst hr3
  refine lv_aload_n hx hb dL_law_1626 rfl (lv_at hl 1 rfl) ?_
  refine lv_aload_n hx hb dL_law_1627 rfl (lv_at hl 3 rfl) ?_
  refine lv_iload_n hx hb dL_law_1628 rfl (lv_at hl 0 rfl) ?_
  refine lv_iconst (v := 1) hx hb dL_law_1629 (by decide +kernel) ?_
  refine lv_iadd hx hb dL_law_1630 ?_
  refine lv_topi (fun z4 ez4 => ?_)
  obtain rfl : z4 = 1 := ez4.trans (by decide +kernel)
  refine va_sld hx hb hX hbl hbA hS (in_d (by decide +kernel)) dL_law_1631 ?_
  refine lv_aload_n hx hb dL_law_1632 rfl (lv_at hl 3 rfl) ?_
  refine lv_iload_n hx hb dL_law_1633 rfl (lv_at hl 0 rfl) ?_
  refine lv_iconst (v := 2) hx hb dL_law_1634 (by decide +kernel) ?_
  refine lv_iadd hx hb dL_law_1635 ?_
  refine lv_topi (fun z5 ez5 => ?_)
  obtain rfl : z5 = 2 := ez5.trans (by decide +kernel)
  refine va_sld hx hb hX hbl hbA hS (in_d (by decide +kernel)) dL_law_1636 ?_
  have hPc := hP.sub (ws' := [(m0, .inr (7, [.ref mnw, .ref mhd, .ref mas, .ref mps, .ref msf, .ref mdt, .ref mhdd, .ref masd, .ref mpsd, .ref msfd, .ref mkp, .int 0, .ref mtp, .int 0, .int 0, .int 0, .int 0, .ref mld, .int 0, .ref mmd, .ref men, .ref mil, .ref mqu, .int 0, .int 0, .ref mbx])), (mnw, .inl (kI, 99, .inl (fun _ => 0)))]) [8, 9] rfl
  have hDc := hD.sub (ws' := [(m0, .inr (7, [.ref mnw, .ref mhd, .ref mas, .ref mps, .ref msf, .ref mdt, .ref mhdd, .ref masd, .ref mpsd, .ref msfd, .ref mkp, .int 0, .ref mtp, .int 0, .int 0, .int 0, .int 0, .ref mld, .int 0, .ref mmd, .ref men, .ref mil, .ref mqu, .int 0, .int 0, .ref mbx])), (mnw, .inl (kI, 99, .inl (fun _ => 0)))]) [8, 9] (by decide) rfl
  have hKc := hK.sub (tys' := [(kI, .int)]) [3] rfl
  refine ro_i (va_runV (As := [.int (xs (1 : Int32).toNatClampNeg), .int (xs (2 : Int32).toNatClampNeg)]) (rest := [.int (-1)]) ⟨hx, hb, hml, hown, hts⟩ (c_X7_shifts l dC dI m0 mnw mhd mas mps msf mdt mhdd masd mpsd msfd mkp mtp mld mmd men mil mqu mbx kI H.size (xs (1 : Int32).toNatClampNeg) (xs (2 : Int32).toNatClampNeg) ) (cwV 2 hts (gV pq1658 pq1659 pq1660 pq81 pq1661) rfl rfl rfl (by decide +kernel) ⟨(Nat.le_of_ble_eq_true rfl), (Nat.le_of_ble_eq_true rfl)⟩) (pc_V hPc hDc hKc hN (va_recv hK hP (ci := 7) (q0 := 8) rfl rfl)) rfl rfl hl.1 rfl (lv_room (Nat.le_of_ble_eq_true rfl)) dL_law_1637 ⟨(Nat.le_of_ble_eq_true rfl), (Nat.le_of_ble_eq_true rfl)⟩) hS hP (fun r6 H locs hr6 hP hS => ?_)
  subst hr6
  refine lv_icmp_eq (tgt := 1950) hx hb dL_law_1640 (by decide) (fun c7 => ?_) (fun c7 => absurd (by decide +kernel) c7)
  refine lv_iinc (v := 6) (lv' := [(3, .int 6), (2, .ref m0), (1, .ref x0), (0, .ref b)]) hx hb dL_law_1950 hl (k := 0) rfl (by decide +kernel) (by decide) rfl (fun ls hl => ?_)
  refine lv_goto (tgt := 18) hx hb dL_law_1953 (by decide) ?_
  refine lv_iload_n hx hb dL_law_18 rfl (lv_at hl 0 rfl) ?_
  refine lv_aload_n hx hb dL_law_19 rfl (lv_at hl 3 rfl) ?_
  refine va_slen hx hb hX hbl hbA hS dL_law_20 ?_
  refine lv_bipush (v := 6) hx hb dL_law_21 (by decide +kernel) ?_
  refine lv_isub hx hb dL_law_23 ?_
  refine lv_topi (fun z8 ez8 => ?_)
  obtain rfl : z8 = 0 := ez8.trans (by decide +kernel)
  refine lv_icmp_gt (tgt := 1956) hx hb dL_law_24 (by decide) (fun c9 => ?_) (fun c9 => absurd (by decide +kernel) c9)
  refine lv_iconst (v := 1) hx hb dL_law_1956 (by decide +kernel) ?_
  refine va_forget (fun q hq => hS.2.2 q hq) ?_
  refine W.widen (k := 600000) (n := 7302249) (Nat.le_of_ble_eq_true rfl) (Nat.le_of_ble_eq_true rfl) ?_
  refine W.base ?_
  exact lw_ret (Drawn.sameBut.refl s.drawn lw_cs) hx hb hr hlocks dL_law_1957

set_option maxHeartbeats 4000000 in
set_option maxRecDepth 100000 in
theorem lw_case40 {p : Program} {e : Env} {s : State} {m : MethodId} {below : List Frame} {meth : Method} {c : Code} (l : Launch) {b : Nat} {xs : Nat → Int32} {dC : Nat → ClassId} {dI : Nat → Nat → Nat} (C0 : lw_At p s m meth c b 6 xs) {x0 tp nw dr rd sc sk fl ps sh nm nb dm db ss m0 mnw mhd mas mps msf mdt mhdd masd mpsd msfd mkp mtp mld mmd men mil mqu mbx : Nat} {kB kF kG kI kI2 kI3 kI4 kI5 kJ kJ2 kJ3 kJ4 kJ5 kZ kY : ClassId} {H : Heap} {locs : List Loc} {ls : Array Slot} (hK : va_K (dC, dI) vwCl [(kB, .byte), (kF, .object RX1), (kG, .object RX1), (kI, .int), (kI2, .int), (kI3, .int), (kI4, .int), (kI5, .int), (kJ, .long), (kJ2, .long), (kJ3, .long), (kJ4, .long), (kJ5, .long), (kZ, .boolean), (kY, .byte)] s) (hP : va_P (dC, dI) vwCl [(x0, .inr (6, [.ref tp, .int 0, .ref nw, .ref dr, .ref rd, .ref sc, .ref sk, .ref fl, .ref ps, .int 0, .int 0, .ref sh])), (tp, .inl (kB, 400, .inl (fun _ => 0))), (nw, .inr (1, [.ref nm, .ref nb, .int 0, .int 0, .int 0])), (dr, .inr (1, [.ref dm, .ref db, .int 0, .int 0, .int 0])), (rd, .inr (4, [.ref tp, .int 0, .int 0, .int 0, .int 0, .int 0])), (sc, .inr (5, [.ref nw, .ref ss, .int 0, .int (-1), .int 0, .int 0, .int 0, .int 0, .int 0])), (ps, .inl (kF, 10, .inr (.inr (.inr (.inr (fun _ => none)))))), (sh, .inl (kG, 2, .inr (.inr (.inr (.inr (fun _ => none)))))), (m0, .inr (7, [.ref mnw, .ref mhd, .ref mas, .ref mps, .ref msf, .ref mdt, .ref mhdd, .ref masd, .ref mpsd, .ref msfd, .ref mkp, .int 0, .ref mtp, .int 0, .int 0, .int 0, .int 0, .ref mld, .int 0, .ref mmd, .ref men, .ref mil, .ref mqu, .int 0, .int 0, .ref mbx])), (mnw, .inl (kI, 99, .inl (fun _ => 0))), (mhd, .inl (kI2, 99, .inl (fun _ => 0))), (mas, .inl (kI3, 99, .inl (fun _ => 0))), (mps, .inl (kI4, 990, .inl (fun _ => 0))), (msf, .inl (kI5, 198, .inl (fun _ => 0))), (mdt, .inl (kJ, 640, .inr (.inl (fun _ => 0)))), (mhdd, .inl (kJ2, 640, .inr (.inl (fun _ => 0)))), (masd, .inl (kJ3, 640, .inr (.inl (fun _ => 0)))), (mpsd, .inl (kJ4, 6400, .inr (.inl (fun _ => 0)))), (msfd, .inl (kJ5, 1280, .inr (.inl (fun _ => 0)))), (mkp, .inl (kZ, 2, .inl (fun _ => 0))), (mtp, .inl (kY, 400, .inl (fun _ => 0)))] H) (hD : va_D (fun q : Nat => s.heap.size ≤ q) [(x0, .inr (6, [.ref tp, .int 0, .ref nw, .ref dr, .ref rd, .ref sc, .ref sk, .ref fl, .ref ps, .int 0, .int 0, .ref sh])), (tp, .inl (kB, 400, .inl (fun _ => 0))), (nw, .inr (1, [.ref nm, .ref nb, .int 0, .int 0, .int 0])), (dr, .inr (1, [.ref dm, .ref db, .int 0, .int 0, .int 0])), (rd, .inr (4, [.ref tp, .int 0, .int 0, .int 0, .int 0, .int 0])), (sc, .inr (5, [.ref nw, .ref ss, .int 0, .int (-1), .int 0, .int 0, .int 0, .int 0, .int 0])), (ps, .inl (kF, 10, .inr (.inr (.inr (.inr (fun _ => none)))))), (sh, .inl (kG, 2, .inr (.inr (.inr (.inr (fun _ => none)))))), (m0, .inr (7, [.ref mnw, .ref mhd, .ref mas, .ref mps, .ref msf, .ref mdt, .ref mhdd, .ref masd, .ref mpsd, .ref msfd, .ref mkp, .int 0, .ref mtp, .int 0, .int 0, .int 0, .int 0, .ref mld, .int 0, .ref mmd, .ref men, .ref mil, .ref mqu, .int 0, .int 0, .ref mbx])), (mnw, .inl (kI, 99, .inl (fun _ => 0))), (mhd, .inl (kI2, 99, .inl (fun _ => 0))), (mas, .inl (kI3, 99, .inl (fun _ => 0))), (mps, .inl (kI4, 990, .inl (fun _ => 0))), (msf, .inl (kI5, 198, .inl (fun _ => 0))), (mdt, .inl (kJ, 640, .inr (.inl (fun _ => 0)))), (mhdd, .inl (kJ2, 640, .inr (.inl (fun _ => 0)))), (masd, .inl (kJ3, 640, .inr (.inl (fun _ => 0)))), (mpsd, .inl (kJ4, 6400, .inr (.inl (fun _ => 0)))), (msfd, .inl (kJ5, 1280, .inr (.inl (fun _ => 0)))), (mkp, .inl (kZ, 2, .inl (fun _ => 0))), (mtp, .inl (kY, 400, .inl (fun _ => 0)))]) (hS : va_S (fun q : Nat => s.heap.size ≤ q) s.heap H locs) (hl : lv_has ls 4 [(3, .int 0), (2, .ref m0), (1, .ref x0), (0, .ref b)]) : W p l e room_1 s m #[Value.ref b] below meth c H locs 110 27528 (lw_Z below #[Value.ref b] s) (F0 m 1645 ls []) := by
  obtain ⟨hx, hb, hr, hml, hown, htl, hX, hbl, hlocks, hgv⟩ := id C0
  have hb : c.code = cL_law := hb
  have hown : s.vm.findClass RL = some m.cls := hown
  have hts : ∀ w ∈ pw, w.before #[Value.ref b] s = true := fun w h => htl w (pw_tbl h)
  have hN : xN s := xN_of htl
  have hA : ∀ q : Nat, s.heap.size ≤ q → (fun q : Nat => s.heap.size ≤ q) q := fun _ h => h
  have hbA : ¬ (fun q : Nat => s.heap.size ≤ q) b := Nat.not_le.mpr hbl
  refine lv_aload_n hx hb dL_law_1645 rfl (lv_at hl 2 rfl) ?_
  refine lv_aload_n hx hb dL_law_1646 rfl (lv_at hl 3 rfl) ?_
  refine lv_iload_n hx hb dL_law_1647 rfl (lv_at hl 0 rfl) ?_
  refine lv_iconst (v := 1) hx hb dL_law_1648 (by decide +kernel) ?_
  refine lv_iadd hx hb dL_law_1649 ?_
  refine lv_topi (fun z1 ez1 => ?_)
  obtain rfl : z1 = 1 := ez1.trans (by decide +kernel)
  refine va_sld hx hb hX hbl hbA hS (in_d (by decide +kernel)) dL_law_1650 ?_
  have hPc := hP.sub (ws' := [(x0, .inr (6, [.ref tp, .int 0, .ref nw, .ref dr, .ref rd, .ref sc, .ref sk, .ref fl, .ref ps, .int 0, .int 0, .ref sh])), (nw, .inr (1, [.ref nm, .ref nb, .int 0, .int 0, .int 0]))]) [0, 2] rfl
  have hDc := hD.sub (ws' := [(x0, .inr (6, [.ref tp, .int 0, .ref nw, .ref dr, .ref rd, .ref sc, .ref sk, .ref fl, .ref ps, .int 0, .int 0, .ref sh])), (nw, .inr (1, [.ref nm, .ref nb, .int 0, .int 0, .int 0]))]) [0, 2] (by decide) rfl
  have hKc := hK.sub (tys' := []) [] rfl
  refine ro_i (va_runV (As := [.int (xs (1 : Int32).toNatClampNeg)]) (rest := []) ⟨hx, hb, hml, hown, hts⟩ (c_X6_like l dC dI x0 tp nw dr rd sc sk fl ps sh nm nb H.size (xs (1 : Int32).toNatClampNeg) ) (cwV 1 hts (gV pq899 pq900 pq901 pq74 pq902) rfl rfl rfl (by decide +kernel) ⟨(Nat.le_of_ble_eq_true rfl), (Nat.le_of_ble_eq_true rfl)⟩) (pc_V hPc hDc hKc hN (va_recv hK hP (ci := 6) (q0 := 0) rfl rfl)) rfl rfl hl.1 rfl (lv_room (Nat.le_of_ble_eq_true rfl)) dL_law_1651 ⟨(Nat.le_of_ble_eq_true rfl), (Nat.le_of_ble_eq_true rfl)⟩) hS hP (fun r2 H locs hr2 hP hS => ?_)
  subst hr2
  refine lv_aload_n hx hb dL_law_1654 rfl (lv_at hl 1 rfl) ?_
  refine lv_aload_n hx hb dL_law_1655 rfl (lv_at hl 3 rfl) ?_
  refine lv_iload_n hx hb dL_law_1656 rfl (lv_at hl 0 rfl) ?_
  refine lv_iconst (v := 1) hx hb dL_law_1657 (by decide +kernel) ?_
  refine lv_iadd hx hb dL_law_1658 ?_
  refine lv_topi (fun z3 ez3 => ?_)
  obtain rfl : z3 = 1 := ez3.trans (by decide +kernel)
  refine va_sld hx hb hX hbl hbA hS (in_d (by decide +kernel)) dL_law_1659 ?_
  have hPc := hP.sub (ws' := [(m0, .inr (7, [.ref mnw, .ref mhd, .ref mas, .ref mps, .ref msf, .ref mdt, .ref mhdd, .ref masd, .ref mpsd, .ref msfd, .ref mkp, .int 0, .ref mtp, .int 0, .int 0, .int 0, .int 0, .ref mld, .int 0, .ref mmd, .ref men, .ref mil, .ref mqu, .int 0, .int 0, .ref mbx])), (mnw, .inl (kI, 99, .inl (fun _ => 0)))]) [8, 9] rfl
  have hDc := hD.sub (ws' := [(m0, .inr (7, [.ref mnw, .ref mhd, .ref mas, .ref mps, .ref msf, .ref mdt, .ref mhdd, .ref masd, .ref mpsd, .ref msfd, .ref mkp, .int 0, .ref mtp, .int 0, .int 0, .int 0, .int 0, .ref mld, .int 0, .ref mmd, .ref men, .ref mil, .ref mqu, .int 0, .int 0, .ref mbx])), (mnw, .inl (kI, 99, .inl (fun _ => 0)))]) [8, 9] (by decide) rfl
  have hKc := hK.sub (tys' := [(kI, .int)]) [3] rfl
  refine ro_i (va_runV (As := [.int (xs (1 : Int32).toNatClampNeg)]) (rest := [.int (-1)]) ⟨hx, hb, hml, hown, hts⟩ (c_X7_like l dC dI m0 mnw mhd mas mps msf mdt mhdd masd mpsd msfd mkp mtp mld mmd men mil mqu mbx kI H.size (xs (1 : Int32).toNatClampNeg) ) (cwV 1 hts (gV pq1666 pq1667 pq1668 pq81 pq1669) rfl rfl rfl (by decide +kernel) ⟨(Nat.le_of_ble_eq_true rfl), (Nat.le_of_ble_eq_true rfl)⟩) (pc_V hPc hDc hKc hN (va_recv hK hP (ci := 7) (q0 := 8) rfl rfl)) rfl rfl hl.1 rfl (lv_room (Nat.le_of_ble_eq_true rfl)) dL_law_1660 ⟨(Nat.le_of_ble_eq_true rfl), (Nat.le_of_ble_eq_true rfl)⟩) hS hP (fun r4 H locs hr4 hP hS => ?_)
  subst hr4
  refine lv_icmp_eq (tgt := 1950) hx hb dL_law_1663 (by decide) (fun c5 => ?_) (fun c5 => absurd (by decide +kernel) c5)
  refine lv_iinc (v := 6) (lv' := [(3, .int 6), (2, .ref m0), (1, .ref x0), (0, .ref b)]) hx hb dL_law_1950 hl (k := 0) rfl (by decide +kernel) (by decide) rfl (fun ls hl => ?_)
  refine lv_goto (tgt := 18) hx hb dL_law_1953 (by decide) ?_
  refine lv_iload_n hx hb dL_law_18 rfl (lv_at hl 0 rfl) ?_
  refine lv_aload_n hx hb dL_law_19 rfl (lv_at hl 3 rfl) ?_
  refine va_slen hx hb hX hbl hbA hS dL_law_20 ?_
  refine lv_bipush (v := 6) hx hb dL_law_21 (by decide +kernel) ?_
  refine lv_isub hx hb dL_law_23 ?_
  refine lv_topi (fun z6 ez6 => ?_)
  obtain rfl : z6 = 0 := ez6.trans (by decide +kernel)
  refine lv_icmp_gt (tgt := 1956) hx hb dL_law_24 (by decide) (fun c7 => ?_) (fun c7 => absurd (by decide +kernel) c7)
  refine lv_iconst (v := 1) hx hb dL_law_1956 (by decide +kernel) ?_
  refine va_forget (fun q hq => hS.2.2 q hq) ?_
  refine W.widen (k := 600000) (n := 7302249) (Nat.le_of_ble_eq_true rfl) (Nat.le_of_ble_eq_true rfl) ?_
  refine W.base ?_
  exact lw_ret (Drawn.sameBut.refl s.drawn lw_cs) hx hb hr hlocks dL_law_1957

set_option maxHeartbeats 4000000 in
set_option maxRecDepth 100000 in
theorem lw_case41 {p : Program} {e : Env} {s : State} {m : MethodId} {below : List Frame} {meth : Method} {c : Code} (l : Launch) {b : Nat} {xs : Nat → Int32} {dC : Nat → ClassId} {dI : Nat → Nat → Nat} (C0 : lw_At p s m meth c b 6 xs) {x0 tp nw dr rd sc sk fl ps sh nm nb dm db ss m0 mnw mhd mas mps msf mdt mhdd masd mpsd msfd mkp mtp mld mmd men mil mqu mbx : Nat} {kB kF kG kI kI2 kI3 kI4 kI5 kJ kJ2 kJ3 kJ4 kJ5 kZ kY : ClassId} {H : Heap} {locs : List Loc} {ls : Array Slot} (hK : va_K (dC, dI) vwCl [(kB, .byte), (kF, .object RX1), (kG, .object RX1), (kI, .int), (kI2, .int), (kI3, .int), (kI4, .int), (kI5, .int), (kJ, .long), (kJ2, .long), (kJ3, .long), (kJ4, .long), (kJ5, .long), (kZ, .boolean), (kY, .byte)] s) (hP : va_P (dC, dI) vwCl [(x0, .inr (6, [.ref tp, .int 0, .ref nw, .ref dr, .ref rd, .ref sc, .ref sk, .ref fl, .ref ps, .int 0, .int 0, .ref sh])), (tp, .inl (kB, 400, .inl (fun _ => 0))), (nw, .inr (1, [.ref nm, .ref nb, .int 0, .int 0, .int 0])), (dr, .inr (1, [.ref dm, .ref db, .int 0, .int 0, .int 0])), (rd, .inr (4, [.ref tp, .int 0, .int 0, .int 0, .int 0, .int 0])), (sc, .inr (5, [.ref nw, .ref ss, .int 0, .int (-1), .int 0, .int 0, .int 0, .int 0, .int 0])), (ps, .inl (kF, 10, .inr (.inr (.inr (.inr (fun _ => none)))))), (sh, .inl (kG, 2, .inr (.inr (.inr (.inr (fun _ => none)))))), (m0, .inr (7, [.ref mnw, .ref mhd, .ref mas, .ref mps, .ref msf, .ref mdt, .ref mhdd, .ref masd, .ref mpsd, .ref msfd, .ref mkp, .int 0, .ref mtp, .int 0, .int 0, .int 0, .int 0, .ref mld, .int 0, .ref mmd, .ref men, .ref mil, .ref mqu, .int 0, .int 0, .ref mbx])), (mnw, .inl (kI, 99, .inl (fun _ => 0))), (mhd, .inl (kI2, 99, .inl (fun _ => 0))), (mas, .inl (kI3, 99, .inl (fun _ => 0))), (mps, .inl (kI4, 990, .inl (fun _ => 0))), (msf, .inl (kI5, 198, .inl (fun _ => 0))), (mdt, .inl (kJ, 640, .inr (.inl (fun _ => 0)))), (mhdd, .inl (kJ2, 640, .inr (.inl (fun _ => 0)))), (masd, .inl (kJ3, 640, .inr (.inl (fun _ => 0)))), (mpsd, .inl (kJ4, 6400, .inr (.inl (fun _ => 0)))), (msfd, .inl (kJ5, 1280, .inr (.inl (fun _ => 0)))), (mkp, .inl (kZ, 2, .inl (fun _ => 0))), (mtp, .inl (kY, 400, .inl (fun _ => 0)))] H) (hD : va_D (fun q : Nat => s.heap.size ≤ q) [(x0, .inr (6, [.ref tp, .int 0, .ref nw, .ref dr, .ref rd, .ref sc, .ref sk, .ref fl, .ref ps, .int 0, .int 0, .ref sh])), (tp, .inl (kB, 400, .inl (fun _ => 0))), (nw, .inr (1, [.ref nm, .ref nb, .int 0, .int 0, .int 0])), (dr, .inr (1, [.ref dm, .ref db, .int 0, .int 0, .int 0])), (rd, .inr (4, [.ref tp, .int 0, .int 0, .int 0, .int 0, .int 0])), (sc, .inr (5, [.ref nw, .ref ss, .int 0, .int (-1), .int 0, .int 0, .int 0, .int 0, .int 0])), (ps, .inl (kF, 10, .inr (.inr (.inr (.inr (fun _ => none)))))), (sh, .inl (kG, 2, .inr (.inr (.inr (.inr (fun _ => none)))))), (m0, .inr (7, [.ref mnw, .ref mhd, .ref mas, .ref mps, .ref msf, .ref mdt, .ref mhdd, .ref masd, .ref mpsd, .ref msfd, .ref mkp, .int 0, .ref mtp, .int 0, .int 0, .int 0, .int 0, .ref mld, .int 0, .ref mmd, .ref men, .ref mil, .ref mqu, .int 0, .int 0, .ref mbx])), (mnw, .inl (kI, 99, .inl (fun _ => 0))), (mhd, .inl (kI2, 99, .inl (fun _ => 0))), (mas, .inl (kI3, 99, .inl (fun _ => 0))), (mps, .inl (kI4, 990, .inl (fun _ => 0))), (msf, .inl (kI5, 198, .inl (fun _ => 0))), (mdt, .inl (kJ, 640, .inr (.inl (fun _ => 0)))), (mhdd, .inl (kJ2, 640, .inr (.inl (fun _ => 0)))), (masd, .inl (kJ3, 640, .inr (.inl (fun _ => 0)))), (mpsd, .inl (kJ4, 6400, .inr (.inl (fun _ => 0)))), (msfd, .inl (kJ5, 1280, .inr (.inl (fun _ => 0)))), (mkp, .inl (kZ, 2, .inl (fun _ => 0))), (mtp, .inl (kY, 400, .inl (fun _ => 0)))]) (hS : va_S (fun q : Nat => s.heap.size ≤ q) s.heap H locs) (hl : lv_has ls 4 [(3, .int 0), (2, .ref m0), (1, .ref x0), (0, .ref b)]) : W p l e room_1 s m #[Value.ref b] below meth c H locs 110 27528 (lw_Z below #[Value.ref b] s) (F0 m 1668 ls []) := by
  obtain ⟨hx, hb, hr, hml, hown, htl, hX, hbl, hlocks, hgv⟩ := id C0
  have hb : c.code = cL_law := hb
  have hown : s.vm.findClass RL = some m.cls := hown
  have hts : ∀ w ∈ pw, w.before #[Value.ref b] s = true := fun w h => htl w (pw_tbl h)
  have hN : xN s := xN_of htl
  have hA : ∀ q : Nat, s.heap.size ≤ q → (fun q : Nat => s.heap.size ≤ q) q := fun _ h => h
  have hbA : ¬ (fun q : Nat => s.heap.size ≤ q) b := Nat.not_le.mpr hbl
  refine lv_aload_n hx hb dL_law_1668 rfl (lv_at hl 2 rfl) ?_
  refine lv_aload_n hx hb dL_law_1669 rfl (lv_at hl 3 rfl) ?_
  refine lv_iload_n hx hb dL_law_1670 rfl (lv_at hl 0 rfl) ?_
  refine lv_iconst (v := 1) hx hb dL_law_1671 (by decide +kernel) ?_
  refine lv_iadd hx hb dL_law_1672 ?_
  refine lv_topi (fun z1 ez1 => ?_)
  obtain rfl : z1 = 1 := ez1.trans (by decide +kernel)
  refine va_sld hx hb hX hbl hbA hS (in_d (by decide +kernel)) dL_law_1673 ?_
  refine lv_aload_n hx hb dL_law_1674 rfl (lv_at hl 3 rfl) ?_
  refine lv_iload_n hx hb dL_law_1675 rfl (lv_at hl 0 rfl) ?_
  refine lv_iconst (v := 2) hx hb dL_law_1676 (by decide +kernel) ?_
  refine lv_iadd hx hb dL_law_1677 ?_
  refine lv_topi (fun z2 ez2 => ?_)
  obtain rfl : z2 = 2 := ez2.trans (by decide +kernel)
  refine va_sld hx hb hX hbl hbA hS (in_d (by decide +kernel)) dL_law_1678 ?_
  have hPc := hP.sub (ws' := [(x0, .inr (6, [.ref tp, .int 0, .ref nw, .ref dr, .ref rd, .ref sc, .ref sk, .ref fl, .ref ps, .int 0, .int 0, .ref sh])), (nw, .inr (1, [.ref nm, .ref nb, .int 0, .int 0, .int 0]))]) [0, 2] rfl
  have hDc := hD.sub (ws' := [(x0, .inr (6, [.ref tp, .int 0, .ref nw, .ref dr, .ref rd, .ref sc, .ref sk, .ref fl, .ref ps, .int 0, .int 0, .ref sh])), (nw, .inr (1, [.ref nm, .ref nb, .int 0, .int 0, .int 0]))]) [0, 2] (by decide) rfl
  have hKc := hK.sub (tys' := []) [] rfl
  refine ro_i (va_runV (As := [.int (xs (1 : Int32).toNatClampNeg), .int (xs (2 : Int32).toNatClampNeg)]) (rest := []) ⟨hx, hb, hml, hown, hts⟩ (c_X6_letter l dC dI x0 tp nw dr rd sc sk fl ps sh nm nb H.size (xs (1 : Int32).toNatClampNeg) (xs (2 : Int32).toNatClampNeg) ) (cwV 2 hts (gV pq908 pq909 pq910 pq74 pq911) rfl rfl rfl (by decide +kernel) ⟨(Nat.le_of_ble_eq_true rfl), (Nat.le_of_ble_eq_true rfl)⟩) (pc_V hPc hDc hKc hN (va_recv hK hP (ci := 6) (q0 := 0) rfl rfl)) rfl rfl hl.1 rfl (lv_room (Nat.le_of_ble_eq_true rfl)) dL_law_1679 ⟨(Nat.le_of_ble_eq_true rfl), (Nat.le_of_ble_eq_true rfl)⟩) hS hP (fun r3 H locs hr3 hP hS => ?_)
  subst hr3
  refine lv_aload_n hx hb dL_law_1682 rfl (lv_at hl 1 rfl) ?_
  refine lv_aload_n hx hb dL_law_1683 rfl (lv_at hl 3 rfl) ?_
  refine lv_iload_n hx hb dL_law_1684 rfl (lv_at hl 0 rfl) ?_
  refine lv_iconst (v := 1) hx hb dL_law_1685 (by decide +kernel) ?_
  refine lv_iadd hx hb dL_law_1686 ?_
  refine lv_topi (fun z4 ez4 => ?_)
  obtain rfl : z4 = 1 := ez4.trans (by decide +kernel)
  refine va_sld hx hb hX hbl hbA hS (in_d (by decide +kernel)) dL_law_1687 ?_
  refine lv_aload_n hx hb dL_law_1688 rfl (lv_at hl 3 rfl) ?_
  refine lv_iload_n hx hb dL_law_1689 rfl (lv_at hl 0 rfl) ?_
  refine lv_iconst (v := 2) hx hb dL_law_1690 (by decide +kernel) ?_
  refine lv_iadd hx hb dL_law_1691 ?_
  refine lv_topi (fun z5 ez5 => ?_)
  obtain rfl : z5 = 2 := ez5.trans (by decide +kernel)
  refine va_sld hx hb hX hbl hbA hS (in_d (by decide +kernel)) dL_law_1692 ?_
  have hPc := hP.sub (ws' := [(m0, .inr (7, [.ref mnw, .ref mhd, .ref mas, .ref mps, .ref msf, .ref mdt, .ref mhdd, .ref masd, .ref mpsd, .ref msfd, .ref mkp, .int 0, .ref mtp, .int 0, .int 0, .int 0, .int 0, .ref mld, .int 0, .ref mmd, .ref men, .ref mil, .ref mqu, .int 0, .int 0, .ref mbx])), (mnw, .inl (kI, 99, .inl (fun _ => 0)))]) [8, 9] rfl
  have hDc := hD.sub (ws' := [(m0, .inr (7, [.ref mnw, .ref mhd, .ref mas, .ref mps, .ref msf, .ref mdt, .ref mhdd, .ref masd, .ref mpsd, .ref msfd, .ref mkp, .int 0, .ref mtp, .int 0, .int 0, .int 0, .int 0, .ref mld, .int 0, .ref mmd, .ref men, .ref mil, .ref mqu, .int 0, .int 0, .ref mbx])), (mnw, .inl (kI, 99, .inl (fun _ => 0)))]) [8, 9] (by decide) rfl
  have hKc := hK.sub (tys' := [(kI, .int)]) [3] rfl
  refine ro_i (va_runV (As := [.int (xs (1 : Int32).toNatClampNeg), .int (xs (2 : Int32).toNatClampNeg)]) (rest := [.int (-1)]) ⟨hx, hb, hml, hown, hts⟩ (c_X7_letter l dC dI m0 mnw mhd mas mps msf mdt mhdd masd mpsd msfd mkp mtp mld mmd men mil mqu mbx kI H.size (xs (1 : Int32).toNatClampNeg) (xs (2 : Int32).toNatClampNeg) ) (cwV 2 hts (gV pq1674 pq1675 pq1676 pq81 pq1677) rfl rfl rfl (by decide +kernel) ⟨(Nat.le_of_ble_eq_true rfl), (Nat.le_of_ble_eq_true rfl)⟩) (pc_V hPc hDc hKc hN (va_recv hK hP (ci := 7) (q0 := 8) rfl rfl)) rfl rfl hl.1 rfl (lv_room (Nat.le_of_ble_eq_true rfl)) dL_law_1693 ⟨(Nat.le_of_ble_eq_true rfl), (Nat.le_of_ble_eq_true rfl)⟩) hS hP (fun r6 H locs hr6 hP hS => ?_)
  subst hr6
  refine lv_icmp_eq (tgt := 1950) hx hb dL_law_1696 (by decide) (fun c7 => ?_) (fun c7 => absurd (by decide +kernel) c7)
  refine lv_iinc (v := 6) (lv' := [(3, .int 6), (2, .ref m0), (1, .ref x0), (0, .ref b)]) hx hb dL_law_1950 hl (k := 0) rfl (by decide +kernel) (by decide) rfl (fun ls hl => ?_)
  refine lv_goto (tgt := 18) hx hb dL_law_1953 (by decide) ?_
  refine lv_iload_n hx hb dL_law_18 rfl (lv_at hl 0 rfl) ?_
  refine lv_aload_n hx hb dL_law_19 rfl (lv_at hl 3 rfl) ?_
  refine va_slen hx hb hX hbl hbA hS dL_law_20 ?_
  refine lv_bipush (v := 6) hx hb dL_law_21 (by decide +kernel) ?_
  refine lv_isub hx hb dL_law_23 ?_
  refine lv_topi (fun z8 ez8 => ?_)
  obtain rfl : z8 = 0 := ez8.trans (by decide +kernel)
  refine lv_icmp_gt (tgt := 1956) hx hb dL_law_24 (by decide) (fun c9 => ?_) (fun c9 => absurd (by decide +kernel) c9)
  refine lv_iconst (v := 1) hx hb dL_law_1956 (by decide +kernel) ?_
  refine va_forget (fun q hq => hS.2.2 q hq) ?_
  refine W.widen (k := 600000) (n := 7302249) (Nat.le_of_ble_eq_true rfl) (Nat.le_of_ble_eq_true rfl) ?_
  refine W.base ?_
  exact lw_ret (Drawn.sameBut.refl s.drawn lw_cs) hx hb hr hlocks dL_law_1957

set_option maxHeartbeats 4000000 in
set_option maxRecDepth 100000 in
theorem lw_case42 {p : Program} {e : Env} {s : State} {m : MethodId} {below : List Frame} {meth : Method} {c : Code} (l : Launch) {b : Nat} {xs : Nat → Int32} {dC : Nat → ClassId} {dI : Nat → Nat → Nat} (C0 : lw_At p s m meth c b 6 xs) {x0 tp nw dr rd sc sk fl ps sh nm nb dm db ss m0 mnw mhd mas mps msf mdt mhdd masd mpsd msfd mkp mtp mld mmd men mil mqu mbx : Nat} {kB kF kG kI kI2 kI3 kI4 kI5 kJ kJ2 kJ3 kJ4 kJ5 kZ kY : ClassId} {H : Heap} {locs : List Loc} {ls : Array Slot} (hK : va_K (dC, dI) vwCl [(kB, .byte), (kF, .object RX1), (kG, .object RX1), (kI, .int), (kI2, .int), (kI3, .int), (kI4, .int), (kI5, .int), (kJ, .long), (kJ2, .long), (kJ3, .long), (kJ4, .long), (kJ5, .long), (kZ, .boolean), (kY, .byte)] s) (hP : va_P (dC, dI) vwCl [(x0, .inr (6, [.ref tp, .int 0, .ref nw, .ref dr, .ref rd, .ref sc, .ref sk, .ref fl, .ref ps, .int 0, .int 0, .ref sh])), (tp, .inl (kB, 400, .inl (fun _ => 0))), (nw, .inr (1, [.ref nm, .ref nb, .int 0, .int 0, .int 0])), (dr, .inr (1, [.ref dm, .ref db, .int 0, .int 0, .int 0])), (rd, .inr (4, [.ref tp, .int 0, .int 0, .int 0, .int 0, .int 0])), (sc, .inr (5, [.ref nw, .ref ss, .int 0, .int (-1), .int 0, .int 0, .int 0, .int 0, .int 0])), (ps, .inl (kF, 10, .inr (.inr (.inr (.inr (fun _ => none)))))), (sh, .inl (kG, 2, .inr (.inr (.inr (.inr (fun _ => none)))))), (m0, .inr (7, [.ref mnw, .ref mhd, .ref mas, .ref mps, .ref msf, .ref mdt, .ref mhdd, .ref masd, .ref mpsd, .ref msfd, .ref mkp, .int 0, .ref mtp, .int 0, .int 0, .int 0, .int 0, .ref mld, .int 0, .ref mmd, .ref men, .ref mil, .ref mqu, .int 0, .int 0, .ref mbx])), (mnw, .inl (kI, 99, .inl (fun _ => 0))), (mhd, .inl (kI2, 99, .inl (fun _ => 0))), (mas, .inl (kI3, 99, .inl (fun _ => 0))), (mps, .inl (kI4, 990, .inl (fun _ => 0))), (msf, .inl (kI5, 198, .inl (fun _ => 0))), (mdt, .inl (kJ, 640, .inr (.inl (fun _ => 0)))), (mhdd, .inl (kJ2, 640, .inr (.inl (fun _ => 0)))), (masd, .inl (kJ3, 640, .inr (.inl (fun _ => 0)))), (mpsd, .inl (kJ4, 6400, .inr (.inl (fun _ => 0)))), (msfd, .inl (kJ5, 1280, .inr (.inl (fun _ => 0)))), (mkp, .inl (kZ, 2, .inl (fun _ => 0))), (mtp, .inl (kY, 400, .inl (fun _ => 0)))] H) (hD : va_D (fun q : Nat => s.heap.size ≤ q) [(x0, .inr (6, [.ref tp, .int 0, .ref nw, .ref dr, .ref rd, .ref sc, .ref sk, .ref fl, .ref ps, .int 0, .int 0, .ref sh])), (tp, .inl (kB, 400, .inl (fun _ => 0))), (nw, .inr (1, [.ref nm, .ref nb, .int 0, .int 0, .int 0])), (dr, .inr (1, [.ref dm, .ref db, .int 0, .int 0, .int 0])), (rd, .inr (4, [.ref tp, .int 0, .int 0, .int 0, .int 0, .int 0])), (sc, .inr (5, [.ref nw, .ref ss, .int 0, .int (-1), .int 0, .int 0, .int 0, .int 0, .int 0])), (ps, .inl (kF, 10, .inr (.inr (.inr (.inr (fun _ => none)))))), (sh, .inl (kG, 2, .inr (.inr (.inr (.inr (fun _ => none)))))), (m0, .inr (7, [.ref mnw, .ref mhd, .ref mas, .ref mps, .ref msf, .ref mdt, .ref mhdd, .ref masd, .ref mpsd, .ref msfd, .ref mkp, .int 0, .ref mtp, .int 0, .int 0, .int 0, .int 0, .ref mld, .int 0, .ref mmd, .ref men, .ref mil, .ref mqu, .int 0, .int 0, .ref mbx])), (mnw, .inl (kI, 99, .inl (fun _ => 0))), (mhd, .inl (kI2, 99, .inl (fun _ => 0))), (mas, .inl (kI3, 99, .inl (fun _ => 0))), (mps, .inl (kI4, 990, .inl (fun _ => 0))), (msf, .inl (kI5, 198, .inl (fun _ => 0))), (mdt, .inl (kJ, 640, .inr (.inl (fun _ => 0)))), (mhdd, .inl (kJ2, 640, .inr (.inl (fun _ => 0)))), (masd, .inl (kJ3, 640, .inr (.inl (fun _ => 0)))), (mpsd, .inl (kJ4, 6400, .inr (.inl (fun _ => 0)))), (msfd, .inl (kJ5, 1280, .inr (.inl (fun _ => 0)))), (mkp, .inl (kZ, 2, .inl (fun _ => 0))), (mtp, .inl (kY, 400, .inl (fun _ => 0)))]) (hS : va_S (fun q : Nat => s.heap.size ≤ q) s.heap H locs) (hl : lv_has ls 4 [(3, .int 0), (2, .ref m0), (1, .ref x0), (0, .ref b)]) : W p l e room_1 s m #[Value.ref b] below meth c H locs 110 27528 (lw_Z below #[Value.ref b] s) (F0 m 1701 ls []) := by
  obtain ⟨hx, hb, hr, hml, hown, htl, hX, hbl, hlocks, hgv⟩ := id C0
  have hb : c.code = cL_law := hb
  have hown : s.vm.findClass RL = some m.cls := hown
  have hts : ∀ w ∈ pw, w.before #[Value.ref b] s = true := fun w h => htl w (pw_tbl h)
  have hN : xN s := xN_of htl
  have hA : ∀ q : Nat, s.heap.size ≤ q → (fun q : Nat => s.heap.size ≤ q) q := fun _ h => h
  have hbA : ¬ (fun q : Nat => s.heap.size ≤ q) b := Nat.not_le.mpr hbl
  refine lv_aload_n hx hb dL_law_1701 rfl (lv_at hl 2 rfl) ?_
  refine lv_aload_n hx hb dL_law_1702 rfl (lv_at hl 3 rfl) ?_
  refine lv_iload_n hx hb dL_law_1703 rfl (lv_at hl 0 rfl) ?_
  refine lv_iconst (v := 1) hx hb dL_law_1704 (by decide +kernel) ?_
  refine lv_iadd hx hb dL_law_1705 ?_
  refine lv_topi (fun z1 ez1 => ?_)
  obtain rfl : z1 = 1 := ez1.trans (by decide +kernel)
  refine va_sld hx hb hX hbl hbA hS (in_d (by decide +kernel)) dL_law_1706 ?_
  refine lv_aload_n hx hb dL_law_1707 rfl (lv_at hl 3 rfl) ?_
  refine lv_iload_n hx hb dL_law_1708 rfl (lv_at hl 0 rfl) ?_
  refine lv_iconst (v := 2) hx hb dL_law_1709 (by decide +kernel) ?_
  refine lv_iadd hx hb dL_law_1710 ?_
  refine lv_topi (fun z2 ez2 => ?_)
  obtain rfl : z2 = 2 := ez2.trans (by decide +kernel)
  refine va_sld hx hb hX hbl hbA hS (in_d (by decide +kernel)) dL_law_1711 ?_
  refine lv_aload_n hx hb dL_law_1712 rfl (lv_at hl 3 rfl) ?_
  refine lv_iload_n hx hb dL_law_1713 rfl (lv_at hl 0 rfl) ?_
  refine lv_iconst (v := 3) hx hb dL_law_1714 (by decide +kernel) ?_
  refine lv_iadd hx hb dL_law_1715 ?_
  refine lv_topi (fun z3 ez3 => ?_)
  obtain rfl : z3 = 3 := ez3.trans (by decide +kernel)
  refine va_sld hx hb hX hbl hbA hS (in_d (by decide +kernel)) dL_law_1716 ?_
  refine lv_aload_n hx hb dL_law_1717 rfl (lv_at hl 3 rfl) ?_
  refine lv_iload_n hx hb dL_law_1718 rfl (lv_at hl 0 rfl) ?_
  refine lv_iconst (v := 4) hx hb dL_law_1719 (by decide +kernel) ?_
  refine lv_iadd hx hb dL_law_1720 ?_
  refine lv_topi (fun z4 ez4 => ?_)
  obtain rfl : z4 = 4 := ez4.trans (by decide +kernel)
  refine va_sld hx hb hX hbl hbA hS (in_d (by decide +kernel)) dL_law_1721 ?_
  have hPc := hP.sub (ws' := [(x0, .inr (6, [.ref tp, .int 0, .ref nw, .ref dr, .ref rd, .ref sc, .ref sk, .ref fl, .ref ps, .int 0, .int 0, .ref sh])), (nw, .inr (1, [.ref nm, .ref nb, .int 0, .int 0, .int 0]))]) [0, 2] rfl
  have hDc := hD.sub (ws' := [(x0, .inr (6, [.ref tp, .int 0, .ref nw, .ref dr, .ref rd, .ref sc, .ref sk, .ref fl, .ref ps, .int 0, .int 0, .ref sh])), (nw, .inr (1, [.ref nm, .ref nb, .int 0, .int 0, .int 0]))]) [0, 2] (by decide) rfl
  have hKc := hK.sub (tys' := []) [] rfl
  refine ro_i (va_runV (As := [.int (xs (1 : Int32).toNatClampNeg), .int (xs (2 : Int32).toNatClampNeg), .int (xs (3 : Int32).toNatClampNeg), .int (xs (4 : Int32).toNatClampNeg)]) (rest := []) ⟨hx, hb, hml, hown, hts⟩ (c_X6_dense l dC dI x0 tp nw dr rd sc sk fl ps sh nm nb H.size (xs (1 : Int32).toNatClampNeg) (xs (2 : Int32).toNatClampNeg) (xs (3 : Int32).toNatClampNeg) (xs (4 : Int32).toNatClampNeg) ) (cwV 4 hts (gV pq912 pq913 pq914 pq74 pq915) rfl rfl rfl (by decide +kernel) ⟨(Nat.le_of_ble_eq_true rfl), (Nat.le_of_ble_eq_true rfl)⟩) (pc_V hPc hDc hKc hN (va_recv hK hP (ci := 6) (q0 := 0) rfl rfl)) rfl rfl hl.1 rfl (lv_room (Nat.le_of_ble_eq_true rfl)) dL_law_1722 ⟨(Nat.le_of_ble_eq_true rfl), (Nat.le_of_ble_eq_true rfl)⟩) hS hP (fun r5 H locs hr5 hP hS => ?_)
  subst hr5
  refine lv_aload_n hx hb dL_law_1725 rfl (lv_at hl 1 rfl) ?_
  refine lv_aload_n hx hb dL_law_1726 rfl (lv_at hl 3 rfl) ?_
  refine lv_iload_n hx hb dL_law_1727 rfl (lv_at hl 0 rfl) ?_
  refine lv_iconst (v := 1) hx hb dL_law_1728 (by decide +kernel) ?_
  refine lv_iadd hx hb dL_law_1729 ?_
  refine lv_topi (fun z6 ez6 => ?_)
  obtain rfl : z6 = 1 := ez6.trans (by decide +kernel)
  refine va_sld hx hb hX hbl hbA hS (in_d (by decide +kernel)) dL_law_1730 ?_
  refine lv_aload_n hx hb dL_law_1731 rfl (lv_at hl 3 rfl) ?_
  refine lv_iload_n hx hb dL_law_1732 rfl (lv_at hl 0 rfl) ?_
  refine lv_iconst (v := 2) hx hb dL_law_1733 (by decide +kernel) ?_
  refine lv_iadd hx hb dL_law_1734 ?_
  refine lv_topi (fun z7 ez7 => ?_)
  obtain rfl : z7 = 2 := ez7.trans (by decide +kernel)
  refine va_sld hx hb hX hbl hbA hS (in_d (by decide +kernel)) dL_law_1735 ?_
  refine lv_aload_n hx hb dL_law_1736 rfl (lv_at hl 3 rfl) ?_
  refine lv_iload_n hx hb dL_law_1737 rfl (lv_at hl 0 rfl) ?_
  refine lv_iconst (v := 3) hx hb dL_law_1738 (by decide +kernel) ?_
  refine lv_iadd hx hb dL_law_1739 ?_
  refine lv_topi (fun z8 ez8 => ?_)
  obtain rfl : z8 = 3 := ez8.trans (by decide +kernel)
  refine va_sld hx hb hX hbl hbA hS (in_d (by decide +kernel)) dL_law_1740 ?_
  refine lv_aload_n hx hb dL_law_1741 rfl (lv_at hl 3 rfl) ?_
  refine lv_iload_n hx hb dL_law_1742 rfl (lv_at hl 0 rfl) ?_
  refine lv_iconst (v := 4) hx hb dL_law_1743 (by decide +kernel) ?_
  refine lv_iadd hx hb dL_law_1744 ?_
  refine lv_topi (fun z9 ez9 => ?_)
  obtain rfl : z9 = 4 := ez9.trans (by decide +kernel)
  refine va_sld hx hb hX hbl hbA hS (in_d (by decide +kernel)) dL_law_1745 ?_
  have hPc := hP.sub (ws' := [(m0, .inr (7, [.ref mnw, .ref mhd, .ref mas, .ref mps, .ref msf, .ref mdt, .ref mhdd, .ref masd, .ref mpsd, .ref msfd, .ref mkp, .int 0, .ref mtp, .int 0, .int 0, .int 0, .int 0, .ref mld, .int 0, .ref mmd, .ref men, .ref mil, .ref mqu, .int 0, .int 0, .ref mbx])), (mnw, .inl (kI, 99, .inl (fun _ => 0)))]) [8, 9] rfl
  have hDc := hD.sub (ws' := [(m0, .inr (7, [.ref mnw, .ref mhd, .ref mas, .ref mps, .ref msf, .ref mdt, .ref mhdd, .ref masd, .ref mpsd, .ref msfd, .ref mkp, .int 0, .ref mtp, .int 0, .int 0, .int 0, .int 0, .ref mld, .int 0, .ref mmd, .ref men, .ref mil, .ref mqu, .int 0, .int 0, .ref mbx])), (mnw, .inl (kI, 99, .inl (fun _ => 0)))]) [8, 9] (by decide) rfl
  have hKc := hK.sub (tys' := [(kI, .int)]) [3] rfl
  refine ro_i (va_runV (As := [.int (xs (1 : Int32).toNatClampNeg), .int (xs (2 : Int32).toNatClampNeg), .int (xs (3 : Int32).toNatClampNeg), .int (xs (4 : Int32).toNatClampNeg)]) (rest := [.int (-1)]) ⟨hx, hb, hml, hown, hts⟩ (c_X7_dense l dC dI m0 mnw mhd mas mps msf mdt mhdd masd mpsd msfd mkp mtp mld mmd men mil mqu mbx kI H.size (xs (1 : Int32).toNatClampNeg) (xs (2 : Int32).toNatClampNeg) (xs (3 : Int32).toNatClampNeg) (xs (4 : Int32).toNatClampNeg) ) (cwV 4 hts (gV pq1678 pq1679 pq1680 pq81 pq1681) rfl rfl rfl (by decide +kernel) ⟨(Nat.le_of_ble_eq_true rfl), (Nat.le_of_ble_eq_true rfl)⟩) (pc_V hPc hDc hKc hN (va_recv hK hP (ci := 7) (q0 := 8) rfl rfl)) rfl rfl hl.1 rfl (lv_room (Nat.le_of_ble_eq_true rfl)) dL_law_1746 ⟨(Nat.le_of_ble_eq_true rfl), (Nat.le_of_ble_eq_true rfl)⟩) hS hP (fun r10 H locs hr10 hP hS => ?_)
  subst hr10
  refine lv_icmp_eq (tgt := 1950) hx hb dL_law_1749 (by decide) (fun c11 => ?_) (fun c11 => absurd (by decide +kernel) c11)
  refine lv_iinc (v := 6) (lv' := [(3, .int 6), (2, .ref m0), (1, .ref x0), (0, .ref b)]) hx hb dL_law_1950 hl (k := 0) rfl (by decide +kernel) (by decide) rfl (fun ls hl => ?_)
  refine lv_goto (tgt := 18) hx hb dL_law_1953 (by decide) ?_
  refine lv_iload_n hx hb dL_law_18 rfl (lv_at hl 0 rfl) ?_
  refine lv_aload_n hx hb dL_law_19 rfl (lv_at hl 3 rfl) ?_
  refine va_slen hx hb hX hbl hbA hS dL_law_20 ?_
  refine lv_bipush (v := 6) hx hb dL_law_21 (by decide +kernel) ?_
  refine lv_isub hx hb dL_law_23 ?_
  refine lv_topi (fun z12 ez12 => ?_)
  obtain rfl : z12 = 0 := ez12.trans (by decide +kernel)
  refine lv_icmp_gt (tgt := 1956) hx hb dL_law_24 (by decide) (fun c13 => ?_) (fun c13 => absurd (by decide +kernel) c13)
  refine lv_iconst (v := 1) hx hb dL_law_1956 (by decide +kernel) ?_
  refine va_forget (fun q hq => hS.2.2 q hq) ?_
  refine W.widen (k := 600000) (n := 7302249) (Nat.le_of_ble_eq_true rfl) (Nat.le_of_ble_eq_true rfl) ?_
  refine W.base ?_
  exact lw_ret (Drawn.sameBut.refl s.drawn lw_cs) hx hb hr hlocks dL_law_1957

set_option maxHeartbeats 4000000 in
set_option maxRecDepth 100000 in
theorem lw_case43 {p : Program} {e : Env} {s : State} {m : MethodId} {below : List Frame} {meth : Method} {c : Code} (l : Launch) {b : Nat} {xs : Nat → Int32} {dC : Nat → ClassId} {dI : Nat → Nat → Nat} (C0 : lw_At p s m meth c b 6 xs) {x0 tp nw dr rd sc sk fl ps sh nm nb dm db ss m0 mnw mhd mas mps msf mdt mhdd masd mpsd msfd mkp mtp mld mmd men mil mqu mbx : Nat} {kB kF kG kI kI2 kI3 kI4 kI5 kJ kJ2 kJ3 kJ4 kJ5 kZ kY : ClassId} {H : Heap} {locs : List Loc} {ls : Array Slot} (hK : va_K (dC, dI) vwCl [(kB, .byte), (kF, .object RX1), (kG, .object RX1), (kI, .int), (kI2, .int), (kI3, .int), (kI4, .int), (kI5, .int), (kJ, .long), (kJ2, .long), (kJ3, .long), (kJ4, .long), (kJ5, .long), (kZ, .boolean), (kY, .byte)] s) (hP : va_P (dC, dI) vwCl [(x0, .inr (6, [.ref tp, .int 0, .ref nw, .ref dr, .ref rd, .ref sc, .ref sk, .ref fl, .ref ps, .int 0, .int 0, .ref sh])), (tp, .inl (kB, 400, .inl (fun _ => 0))), (nw, .inr (1, [.ref nm, .ref nb, .int 0, .int 0, .int 0])), (dr, .inr (1, [.ref dm, .ref db, .int 0, .int 0, .int 0])), (rd, .inr (4, [.ref tp, .int 0, .int 0, .int 0, .int 0, .int 0])), (sc, .inr (5, [.ref nw, .ref ss, .int 0, .int (-1), .int 0, .int 0, .int 0, .int 0, .int 0])), (ps, .inl (kF, 10, .inr (.inr (.inr (.inr (fun _ => none)))))), (sh, .inl (kG, 2, .inr (.inr (.inr (.inr (fun _ => none)))))), (m0, .inr (7, [.ref mnw, .ref mhd, .ref mas, .ref mps, .ref msf, .ref mdt, .ref mhdd, .ref masd, .ref mpsd, .ref msfd, .ref mkp, .int 0, .ref mtp, .int 0, .int 0, .int 0, .int 0, .ref mld, .int 0, .ref mmd, .ref men, .ref mil, .ref mqu, .int 0, .int 0, .ref mbx])), (mnw, .inl (kI, 99, .inl (fun _ => 0))), (mhd, .inl (kI2, 99, .inl (fun _ => 0))), (mas, .inl (kI3, 99, .inl (fun _ => 0))), (mps, .inl (kI4, 990, .inl (fun _ => 0))), (msf, .inl (kI5, 198, .inl (fun _ => 0))), (mdt, .inl (kJ, 640, .inr (.inl (fun _ => 0)))), (mhdd, .inl (kJ2, 640, .inr (.inl (fun _ => 0)))), (masd, .inl (kJ3, 640, .inr (.inl (fun _ => 0)))), (mpsd, .inl (kJ4, 6400, .inr (.inl (fun _ => 0)))), (msfd, .inl (kJ5, 1280, .inr (.inl (fun _ => 0)))), (mkp, .inl (kZ, 2, .inl (fun _ => 0))), (mtp, .inl (kY, 400, .inl (fun _ => 0)))] H) (hD : va_D (fun q : Nat => s.heap.size ≤ q) [(x0, .inr (6, [.ref tp, .int 0, .ref nw, .ref dr, .ref rd, .ref sc, .ref sk, .ref fl, .ref ps, .int 0, .int 0, .ref sh])), (tp, .inl (kB, 400, .inl (fun _ => 0))), (nw, .inr (1, [.ref nm, .ref nb, .int 0, .int 0, .int 0])), (dr, .inr (1, [.ref dm, .ref db, .int 0, .int 0, .int 0])), (rd, .inr (4, [.ref tp, .int 0, .int 0, .int 0, .int 0, .int 0])), (sc, .inr (5, [.ref nw, .ref ss, .int 0, .int (-1), .int 0, .int 0, .int 0, .int 0, .int 0])), (ps, .inl (kF, 10, .inr (.inr (.inr (.inr (fun _ => none)))))), (sh, .inl (kG, 2, .inr (.inr (.inr (.inr (fun _ => none)))))), (m0, .inr (7, [.ref mnw, .ref mhd, .ref mas, .ref mps, .ref msf, .ref mdt, .ref mhdd, .ref masd, .ref mpsd, .ref msfd, .ref mkp, .int 0, .ref mtp, .int 0, .int 0, .int 0, .int 0, .ref mld, .int 0, .ref mmd, .ref men, .ref mil, .ref mqu, .int 0, .int 0, .ref mbx])), (mnw, .inl (kI, 99, .inl (fun _ => 0))), (mhd, .inl (kI2, 99, .inl (fun _ => 0))), (mas, .inl (kI3, 99, .inl (fun _ => 0))), (mps, .inl (kI4, 990, .inl (fun _ => 0))), (msf, .inl (kI5, 198, .inl (fun _ => 0))), (mdt, .inl (kJ, 640, .inr (.inl (fun _ => 0)))), (mhdd, .inl (kJ2, 640, .inr (.inl (fun _ => 0)))), (masd, .inl (kJ3, 640, .inr (.inl (fun _ => 0)))), (mpsd, .inl (kJ4, 6400, .inr (.inl (fun _ => 0)))), (msfd, .inl (kJ5, 1280, .inr (.inl (fun _ => 0)))), (mkp, .inl (kZ, 2, .inl (fun _ => 0))), (mtp, .inl (kY, 400, .inl (fun _ => 0)))]) (hS : va_S (fun q : Nat => s.heap.size ≤ q) s.heap H locs) (hl : lv_has ls 4 [(3, .int 0), (2, .ref m0), (1, .ref x0), (0, .ref b)]) : W p l e room_1 s m #[Value.ref b] below meth c H locs 110 27528 (lw_Z below #[Value.ref b] s) (F0 m 1754 ls []) := by
  obtain ⟨hx, hb, hr, hml, hown, htl, hX, hbl, hlocks, hgv⟩ := id C0
  have hb : c.code = cL_law := hb
  have hown : s.vm.findClass RL = some m.cls := hown
  have hts : ∀ w ∈ pw, w.before #[Value.ref b] s = true := fun w h => htl w (pw_tbl h)
  have hN : xN s := xN_of htl
  have hA : ∀ q : Nat, s.heap.size ≤ q → (fun q : Nat => s.heap.size ≤ q) q := fun _ h => h
  have hbA : ¬ (fun q : Nat => s.heap.size ≤ q) b := Nat.not_le.mpr hbl
  refine lv_aload_n hx hb dL_law_1754 rfl (lv_at hl 2 rfl) ?_
  refine lv_aload_n hx hb dL_law_1755 rfl (lv_at hl 3 rfl) ?_
  refine lv_iload_n hx hb dL_law_1756 rfl (lv_at hl 0 rfl) ?_
  refine lv_iconst (v := 1) hx hb dL_law_1757 (by decide +kernel) ?_
  refine lv_iadd hx hb dL_law_1758 ?_
  refine lv_topi (fun z1 ez1 => ?_)
  obtain rfl : z1 = 1 := ez1.trans (by decide +kernel)
  refine va_sld hx hb hX hbl hbA hS (in_d (by decide +kernel)) dL_law_1759 ?_
  refine lv_aload_n hx hb dL_law_1760 rfl (lv_at hl 3 rfl) ?_
  refine lv_iload_n hx hb dL_law_1761 rfl (lv_at hl 0 rfl) ?_
  refine lv_iconst (v := 2) hx hb dL_law_1762 (by decide +kernel) ?_
  refine lv_iadd hx hb dL_law_1763 ?_
  refine lv_topi (fun z2 ez2 => ?_)
  obtain rfl : z2 = 2 := ez2.trans (by decide +kernel)
  refine va_sld hx hb hX hbl hbA hS (in_d (by decide +kernel)) dL_law_1764 ?_
  refine lv_if_eq (tgt := 1772) hx hb dL_law_1765 (by decide) (fun c3 => ?_) (fun c3 => ?_)
  · refine lv_iconst (v := 0) hx hb dL_law_1772 (by decide +kernel) ?_
    refine lv_aload_n hx hb dL_law_1773 rfl (lv_at hl 3 rfl) ?_
    refine lv_iload_n hx hb dL_law_1774 rfl (lv_at hl 0 rfl) ?_
    refine lv_iconst (v := 3) hx hb dL_law_1775 (by decide +kernel) ?_
    refine lv_iadd hx hb dL_law_1776 ?_
    refine lv_topi (fun z4 ez4 => ?_)
    obtain rfl : z4 = 3 := ez4.trans (by decide +kernel)
    refine va_sld hx hb hX hbl hbA hS (in_d (by decide +kernel)) dL_law_1777 ?_
    have hPc := hP.sub (ws' := [(x0, .inr (6, [.ref tp, .int 0, .ref nw, .ref dr, .ref rd, .ref sc, .ref sk, .ref fl, .ref ps, .int 0, .int 0, .ref sh])), (nw, .inr (1, [.ref nm, .ref nb, .int 0, .int 0, .int 0]))]) [0, 2] rfl
    have hDc := hD.sub (ws' := [(x0, .inr (6, [.ref tp, .int 0, .ref nw, .ref dr, .ref rd, .ref sc, .ref sk, .ref fl, .ref ps, .int 0, .int 0, .ref sh])), (nw, .inr (1, [.ref nm, .ref nb, .int 0, .int 0, .int 0]))]) [0, 2] (by decide) rfl
    have hKc := hK.sub (tys' := []) [] rfl
    refine ro_i (va_runV (As := [.int (xs (1 : Int32).toNatClampNeg), .int 0, .int (xs (3 : Int32).toNatClampNeg)]) (rest := []) ⟨hx, hb, hml, hown, hts⟩ (c_X6_dots l dC dI x0 tp nw dr rd sc sk fl ps sh nm nb H.size (xs (1 : Int32).toNatClampNeg) 0 (xs (3 : Int32).toNatClampNeg) ) (cwV 3 hts (gV pq920 pq921 pq922 pq74 pq923) rfl rfl rfl (by decide +kernel) ⟨(Nat.le_of_ble_eq_true rfl), (Nat.le_of_ble_eq_true rfl)⟩) (pc_V hPc hDc hKc hN (va_recv hK hP (ci := 6) (q0 := 0) rfl rfl)) rfl rfl hl.1 rfl (lv_room (Nat.le_of_ble_eq_true rfl)) dL_law_1778 ⟨(Nat.le_of_ble_eq_true rfl), (Nat.le_of_ble_eq_true rfl)⟩) hS hP (fun r5 H locs hr5 hP hS => ?_)
    subst hr5
    refine lv_aload_n hx hb dL_law_1781 rfl (lv_at hl 1 rfl) ?_
    refine lv_aload_n hx hb dL_law_1782 rfl (lv_at hl 3 rfl) ?_
    refine lv_iload_n hx hb dL_law_1783 rfl (lv_at hl 0 rfl) ?_
    refine lv_iconst (v := 1) hx hb dL_law_1784 (by decide +kernel) ?_
    refine lv_iadd hx hb dL_law_1785 ?_
    refine lv_topi (fun z6 ez6 => ?_)
    obtain rfl : z6 = 1 := ez6.trans (by decide +kernel)
    refine va_sld hx hb hX hbl hbA hS (in_d (by decide +kernel)) dL_law_1786 ?_
    refine lv_aload_n hx hb dL_law_1787 rfl (lv_at hl 3 rfl) ?_
    refine lv_iload_n hx hb dL_law_1788 rfl (lv_at hl 0 rfl) ?_
    refine lv_iconst (v := 2) hx hb dL_law_1789 (by decide +kernel) ?_
    refine lv_iadd hx hb dL_law_1790 ?_
    refine lv_topi (fun z7 ez7 => ?_)
    obtain rfl : z7 = 2 := ez7.trans (by decide +kernel)
    refine va_sld hx hb hX hbl hbA hS (in_d (by decide +kernel)) dL_law_1791 ?_
    refine lv_if_eq (tgt := 1799) hx hb dL_law_1792 (by decide) (fun c8 => ?_) (fun c8 => ?_)
    · refine lv_iconst (v := 0) hx hb dL_law_1799 (by decide +kernel) ?_
      refine lv_aload_n hx hb dL_law_1800 rfl (lv_at hl 3 rfl) ?_
      refine lv_iload_n hx hb dL_law_1801 rfl (lv_at hl 0 rfl) ?_
      refine lv_iconst (v := 3) hx hb dL_law_1802 (by decide +kernel) ?_
      refine lv_iadd hx hb dL_law_1803 ?_
      refine lv_topi (fun z9 ez9 => ?_)
      obtain rfl : z9 = 3 := ez9.trans (by decide +kernel)
      refine va_sld hx hb hX hbl hbA hS (in_d (by decide +kernel)) dL_law_1804 ?_
      have hPc := hP.sub (ws' := [(m0, .inr (7, [.ref mnw, .ref mhd, .ref mas, .ref mps, .ref msf, .ref mdt, .ref mhdd, .ref masd, .ref mpsd, .ref msfd, .ref mkp, .int 0, .ref mtp, .int 0, .int 0, .int 0, .int 0, .ref mld, .int 0, .ref mmd, .ref men, .ref mil, .ref mqu, .int 0, .int 0, .ref mbx])), (mnw, .inl (kI, 99, .inl (fun _ => 0)))]) [8, 9] rfl
      have hDc := hD.sub (ws' := [(m0, .inr (7, [.ref mnw, .ref mhd, .ref mas, .ref mps, .ref msf, .ref mdt, .ref mhdd, .ref masd, .ref mpsd, .ref msfd, .ref mkp, .int 0, .ref mtp, .int 0, .int 0, .int 0, .int 0, .ref mld, .int 0, .ref mmd, .ref men, .ref mil, .ref mqu, .int 0, .int 0, .ref mbx])), (mnw, .inl (kI, 99, .inl (fun _ => 0)))]) [8, 9] (by decide) rfl
      have hKc := hK.sub (tys' := [(kI, .int)]) [3] rfl
      refine ro_i (va_runV (As := [.int (xs (1 : Int32).toNatClampNeg), .int 0, .int (xs (3 : Int32).toNatClampNeg)]) (rest := [.int (-1)]) ⟨hx, hb, hml, hown, hts⟩ (c_X7_dots l dC dI m0 mnw mhd mas mps msf mdt mhdd masd mpsd msfd mkp mtp mld mmd men mil mqu mbx kI H.size (xs (1 : Int32).toNatClampNeg) 0 (xs (3 : Int32).toNatClampNeg) ) (cwV 3 hts (gV pq1686 pq1687 pq1688 pq81 pq1689) rfl rfl rfl (by decide +kernel) ⟨(Nat.le_of_ble_eq_true rfl), (Nat.le_of_ble_eq_true rfl)⟩) (pc_V hPc hDc hKc hN (va_recv hK hP (ci := 7) (q0 := 8) rfl rfl)) rfl rfl hl.1 rfl (lv_room (Nat.le_of_ble_eq_true rfl)) dL_law_1805 ⟨(Nat.le_of_ble_eq_true rfl), (Nat.le_of_ble_eq_true rfl)⟩) hS hP (fun r10 H locs hr10 hP hS => ?_)
      subst hr10
      refine lv_icmp_eq (tgt := 1950) hx hb dL_law_1808 (by decide) (fun c11 => ?_) (fun c11 => absurd (by decide +kernel) c11)
      refine lv_iinc (v := 6) (lv' := [(3, .int 6), (2, .ref m0), (1, .ref x0), (0, .ref b)]) hx hb dL_law_1950 hl (k := 0) rfl (by decide +kernel) (by decide) rfl (fun ls hl => ?_)
      refine lv_goto (tgt := 18) hx hb dL_law_1953 (by decide) ?_
      refine lv_iload_n hx hb dL_law_18 rfl (lv_at hl 0 rfl) ?_
      refine lv_aload_n hx hb dL_law_19 rfl (lv_at hl 3 rfl) ?_
      refine va_slen hx hb hX hbl hbA hS dL_law_20 ?_
      refine lv_bipush (v := 6) hx hb dL_law_21 (by decide +kernel) ?_
      refine lv_isub hx hb dL_law_23 ?_
      refine lv_topi (fun z12 ez12 => ?_)
      obtain rfl : z12 = 0 := ez12.trans (by decide +kernel)
      refine lv_icmp_gt (tgt := 1956) hx hb dL_law_24 (by decide) (fun c13 => ?_) (fun c13 => absurd (by decide +kernel) c13)
      refine lv_iconst (v := 1) hx hb dL_law_1956 (by decide +kernel) ?_
      refine va_forget (fun q hq => hS.2.2 q hq) ?_
      refine W.widen (k := 600000) (n := 7302249) (Nat.le_of_ble_eq_true rfl) (Nat.le_of_ble_eq_true rfl) ?_
      refine W.base ?_
      exact lw_ret (Drawn.sameBut.refl s.drawn lw_cs) hx hb hr hlocks dL_law_1957
    · refine lv_iconst (v := 1) hx hb dL_law_1795 (by decide +kernel) ?_
      refine lv_goto (tgt := 1800) hx hb dL_law_1796 (by decide) ?_
      refine lv_aload_n hx hb dL_law_1800 rfl (lv_at hl 3 rfl) ?_
      refine lv_iload_n hx hb dL_law_1801 rfl (lv_at hl 0 rfl) ?_
      refine lv_iconst (v := 3) hx hb dL_law_1802 (by decide +kernel) ?_
      refine lv_iadd hx hb dL_law_1803 ?_
      refine lv_topi (fun z14 ez14 => ?_)
      obtain rfl : z14 = 3 := ez14.trans (by decide +kernel)
      refine va_sld hx hb hX hbl hbA hS (in_d (by decide +kernel)) dL_law_1804 ?_
      have hPc := hP.sub (ws' := [(m0, .inr (7, [.ref mnw, .ref mhd, .ref mas, .ref mps, .ref msf, .ref mdt, .ref mhdd, .ref masd, .ref mpsd, .ref msfd, .ref mkp, .int 0, .ref mtp, .int 0, .int 0, .int 0, .int 0, .ref mld, .int 0, .ref mmd, .ref men, .ref mil, .ref mqu, .int 0, .int 0, .ref mbx])), (mnw, .inl (kI, 99, .inl (fun _ => 0)))]) [8, 9] rfl
      have hDc := hD.sub (ws' := [(m0, .inr (7, [.ref mnw, .ref mhd, .ref mas, .ref mps, .ref msf, .ref mdt, .ref mhdd, .ref masd, .ref mpsd, .ref msfd, .ref mkp, .int 0, .ref mtp, .int 0, .int 0, .int 0, .int 0, .ref mld, .int 0, .ref mmd, .ref men, .ref mil, .ref mqu, .int 0, .int 0, .ref mbx])), (mnw, .inl (kI, 99, .inl (fun _ => 0)))]) [8, 9] (by decide) rfl
      have hKc := hK.sub (tys' := [(kI, .int)]) [3] rfl
      refine ro_i (va_runV (As := [.int (xs (1 : Int32).toNatClampNeg), .int 1, .int (xs (3 : Int32).toNatClampNeg)]) (rest := [.int (-1)]) ⟨hx, hb, hml, hown, hts⟩ (c_X7_dots l dC dI m0 mnw mhd mas mps msf mdt mhdd masd mpsd msfd mkp mtp mld mmd men mil mqu mbx kI H.size (xs (1 : Int32).toNatClampNeg) 1 (xs (3 : Int32).toNatClampNeg) ) (cwV 3 hts (gV pq1686 pq1687 pq1688 pq81 pq1689) rfl rfl rfl (by decide +kernel) ⟨(Nat.le_of_ble_eq_true rfl), (Nat.le_of_ble_eq_true rfl)⟩) (pc_V hPc hDc hKc hN (va_recv hK hP (ci := 7) (q0 := 8) rfl rfl)) rfl rfl hl.1 rfl (lv_room (Nat.le_of_ble_eq_true rfl)) dL_law_1805 ⟨(Nat.le_of_ble_eq_true rfl), (Nat.le_of_ble_eq_true rfl)⟩) hS hP (fun r15 H locs hr15 hP hS => ?_)
      subst hr15
      refine lv_icmp_eq (tgt := 1950) hx hb dL_law_1808 (by decide) (fun c16 => ?_) (fun c16 => absurd (by decide +kernel) c16)
      refine lv_iinc (v := 6) (lv' := [(3, .int 6), (2, .ref m0), (1, .ref x0), (0, .ref b)]) hx hb dL_law_1950 hl (k := 0) rfl (by decide +kernel) (by decide) rfl (fun ls hl => ?_)
      refine lv_goto (tgt := 18) hx hb dL_law_1953 (by decide) ?_
      refine lv_iload_n hx hb dL_law_18 rfl (lv_at hl 0 rfl) ?_
      refine lv_aload_n hx hb dL_law_19 rfl (lv_at hl 3 rfl) ?_
      refine va_slen hx hb hX hbl hbA hS dL_law_20 ?_
      refine lv_bipush (v := 6) hx hb dL_law_21 (by decide +kernel) ?_
      refine lv_isub hx hb dL_law_23 ?_
      refine lv_topi (fun z17 ez17 => ?_)
      obtain rfl : z17 = 0 := ez17.trans (by decide +kernel)
      refine lv_icmp_gt (tgt := 1956) hx hb dL_law_24 (by decide) (fun c18 => ?_) (fun c18 => absurd (by decide +kernel) c18)
      refine lv_iconst (v := 1) hx hb dL_law_1956 (by decide +kernel) ?_
      refine va_forget (fun q hq => hS.2.2 q hq) ?_
      refine W.widen (k := 600000) (n := 7302249) (Nat.le_of_ble_eq_true rfl) (Nat.le_of_ble_eq_true rfl) ?_
      refine W.base ?_
      exact lw_ret (Drawn.sameBut.refl s.drawn lw_cs) hx hb hr hlocks dL_law_1957
  · refine lv_iconst (v := 1) hx hb dL_law_1768 (by decide +kernel) ?_
    refine lv_goto (tgt := 1773) hx hb dL_law_1769 (by decide) ?_
    refine lv_aload_n hx hb dL_law_1773 rfl (lv_at hl 3 rfl) ?_
    refine lv_iload_n hx hb dL_law_1774 rfl (lv_at hl 0 rfl) ?_
    refine lv_iconst (v := 3) hx hb dL_law_1775 (by decide +kernel) ?_
    refine lv_iadd hx hb dL_law_1776 ?_
    refine lv_topi (fun z19 ez19 => ?_)
    obtain rfl : z19 = 3 := ez19.trans (by decide +kernel)
    refine va_sld hx hb hX hbl hbA hS (in_d (by decide +kernel)) dL_law_1777 ?_
    have hPc := hP.sub (ws' := [(x0, .inr (6, [.ref tp, .int 0, .ref nw, .ref dr, .ref rd, .ref sc, .ref sk, .ref fl, .ref ps, .int 0, .int 0, .ref sh])), (nw, .inr (1, [.ref nm, .ref nb, .int 0, .int 0, .int 0]))]) [0, 2] rfl
    have hDc := hD.sub (ws' := [(x0, .inr (6, [.ref tp, .int 0, .ref nw, .ref dr, .ref rd, .ref sc, .ref sk, .ref fl, .ref ps, .int 0, .int 0, .ref sh])), (nw, .inr (1, [.ref nm, .ref nb, .int 0, .int 0, .int 0]))]) [0, 2] (by decide) rfl
    have hKc := hK.sub (tys' := []) [] rfl
    refine ro_i (va_runV (As := [.int (xs (1 : Int32).toNatClampNeg), .int 1, .int (xs (3 : Int32).toNatClampNeg)]) (rest := []) ⟨hx, hb, hml, hown, hts⟩ (c_X6_dots l dC dI x0 tp nw dr rd sc sk fl ps sh nm nb H.size (xs (1 : Int32).toNatClampNeg) 1 (xs (3 : Int32).toNatClampNeg) ) (cwV 3 hts (gV pq920 pq921 pq922 pq74 pq923) rfl rfl rfl (by decide +kernel) ⟨(Nat.le_of_ble_eq_true rfl), (Nat.le_of_ble_eq_true rfl)⟩) (pc_V hPc hDc hKc hN (va_recv hK hP (ci := 6) (q0 := 0) rfl rfl)) rfl rfl hl.1 rfl (lv_room (Nat.le_of_ble_eq_true rfl)) dL_law_1778 ⟨(Nat.le_of_ble_eq_true rfl), (Nat.le_of_ble_eq_true rfl)⟩) hS hP (fun r20 H locs hr20 hP hS => ?_)
    subst hr20
    refine lv_aload_n hx hb dL_law_1781 rfl (lv_at hl 1 rfl) ?_
    refine lv_aload_n hx hb dL_law_1782 rfl (lv_at hl 3 rfl) ?_
    refine lv_iload_n hx hb dL_law_1783 rfl (lv_at hl 0 rfl) ?_
    refine lv_iconst (v := 1) hx hb dL_law_1784 (by decide +kernel) ?_
    refine lv_iadd hx hb dL_law_1785 ?_
    refine lv_topi (fun z21 ez21 => ?_)
    obtain rfl : z21 = 1 := ez21.trans (by decide +kernel)
    refine va_sld hx hb hX hbl hbA hS (in_d (by decide +kernel)) dL_law_1786 ?_
    refine lv_aload_n hx hb dL_law_1787 rfl (lv_at hl 3 rfl) ?_
    refine lv_iload_n hx hb dL_law_1788 rfl (lv_at hl 0 rfl) ?_
    refine lv_iconst (v := 2) hx hb dL_law_1789 (by decide +kernel) ?_
    refine lv_iadd hx hb dL_law_1790 ?_
    refine lv_topi (fun z22 ez22 => ?_)
    obtain rfl : z22 = 2 := ez22.trans (by decide +kernel)
    refine va_sld hx hb hX hbl hbA hS (in_d (by decide +kernel)) dL_law_1791 ?_
    refine lv_if_eq (tgt := 1799) hx hb dL_law_1792 (by decide) (fun c23 => ?_) (fun c23 => ?_)
    · refine lv_iconst (v := 0) hx hb dL_law_1799 (by decide +kernel) ?_
      refine lv_aload_n hx hb dL_law_1800 rfl (lv_at hl 3 rfl) ?_
      refine lv_iload_n hx hb dL_law_1801 rfl (lv_at hl 0 rfl) ?_
      refine lv_iconst (v := 3) hx hb dL_law_1802 (by decide +kernel) ?_
      refine lv_iadd hx hb dL_law_1803 ?_
      refine lv_topi (fun z24 ez24 => ?_)
      obtain rfl : z24 = 3 := ez24.trans (by decide +kernel)
      refine va_sld hx hb hX hbl hbA hS (in_d (by decide +kernel)) dL_law_1804 ?_
      have hPc := hP.sub (ws' := [(m0, .inr (7, [.ref mnw, .ref mhd, .ref mas, .ref mps, .ref msf, .ref mdt, .ref mhdd, .ref masd, .ref mpsd, .ref msfd, .ref mkp, .int 0, .ref mtp, .int 0, .int 0, .int 0, .int 0, .ref mld, .int 0, .ref mmd, .ref men, .ref mil, .ref mqu, .int 0, .int 0, .ref mbx])), (mnw, .inl (kI, 99, .inl (fun _ => 0)))]) [8, 9] rfl
      have hDc := hD.sub (ws' := [(m0, .inr (7, [.ref mnw, .ref mhd, .ref mas, .ref mps, .ref msf, .ref mdt, .ref mhdd, .ref masd, .ref mpsd, .ref msfd, .ref mkp, .int 0, .ref mtp, .int 0, .int 0, .int 0, .int 0, .ref mld, .int 0, .ref mmd, .ref men, .ref mil, .ref mqu, .int 0, .int 0, .ref mbx])), (mnw, .inl (kI, 99, .inl (fun _ => 0)))]) [8, 9] (by decide) rfl
      have hKc := hK.sub (tys' := [(kI, .int)]) [3] rfl
      refine ro_i (va_runV (As := [.int (xs (1 : Int32).toNatClampNeg), .int 0, .int (xs (3 : Int32).toNatClampNeg)]) (rest := [.int (-1)]) ⟨hx, hb, hml, hown, hts⟩ (c_X7_dots l dC dI m0 mnw mhd mas mps msf mdt mhdd masd mpsd msfd mkp mtp mld mmd men mil mqu mbx kI H.size (xs (1 : Int32).toNatClampNeg) 0 (xs (3 : Int32).toNatClampNeg) ) (cwV 3 hts (gV pq1686 pq1687 pq1688 pq81 pq1689) rfl rfl rfl (by decide +kernel) ⟨(Nat.le_of_ble_eq_true rfl), (Nat.le_of_ble_eq_true rfl)⟩) (pc_V hPc hDc hKc hN (va_recv hK hP (ci := 7) (q0 := 8) rfl rfl)) rfl rfl hl.1 rfl (lv_room (Nat.le_of_ble_eq_true rfl)) dL_law_1805 ⟨(Nat.le_of_ble_eq_true rfl), (Nat.le_of_ble_eq_true rfl)⟩) hS hP (fun r25 H locs hr25 hP hS => ?_)
      subst hr25
      refine lv_icmp_eq (tgt := 1950) hx hb dL_law_1808 (by decide) (fun c26 => ?_) (fun c26 => absurd (by decide +kernel) c26)
      refine lv_iinc (v := 6) (lv' := [(3, .int 6), (2, .ref m0), (1, .ref x0), (0, .ref b)]) hx hb dL_law_1950 hl (k := 0) rfl (by decide +kernel) (by decide) rfl (fun ls hl => ?_)
      refine lv_goto (tgt := 18) hx hb dL_law_1953 (by decide) ?_
      refine lv_iload_n hx hb dL_law_18 rfl (lv_at hl 0 rfl) ?_
      refine lv_aload_n hx hb dL_law_19 rfl (lv_at hl 3 rfl) ?_
      refine va_slen hx hb hX hbl hbA hS dL_law_20 ?_
      refine lv_bipush (v := 6) hx hb dL_law_21 (by decide +kernel) ?_
      refine lv_isub hx hb dL_law_23 ?_
      refine lv_topi (fun z27 ez27 => ?_)
      obtain rfl : z27 = 0 := ez27.trans (by decide +kernel)
      refine lv_icmp_gt (tgt := 1956) hx hb dL_law_24 (by decide) (fun c28 => ?_) (fun c28 => absurd (by decide +kernel) c28)
      refine lv_iconst (v := 1) hx hb dL_law_1956 (by decide +kernel) ?_
      refine va_forget (fun q hq => hS.2.2 q hq) ?_
      refine W.widen (k := 600000) (n := 7302249) (Nat.le_of_ble_eq_true rfl) (Nat.le_of_ble_eq_true rfl) ?_
      refine W.base ?_
      exact lw_ret (Drawn.sameBut.refl s.drawn lw_cs) hx hb hr hlocks dL_law_1957
    · refine lv_iconst (v := 1) hx hb dL_law_1795 (by decide +kernel) ?_
      refine lv_goto (tgt := 1800) hx hb dL_law_1796 (by decide) ?_
      refine lv_aload_n hx hb dL_law_1800 rfl (lv_at hl 3 rfl) ?_
      refine lv_iload_n hx hb dL_law_1801 rfl (lv_at hl 0 rfl) ?_
      refine lv_iconst (v := 3) hx hb dL_law_1802 (by decide +kernel) ?_
      refine lv_iadd hx hb dL_law_1803 ?_
      refine lv_topi (fun z29 ez29 => ?_)
      obtain rfl : z29 = 3 := ez29.trans (by decide +kernel)
      refine va_sld hx hb hX hbl hbA hS (in_d (by decide +kernel)) dL_law_1804 ?_
      have hPc := hP.sub (ws' := [(m0, .inr (7, [.ref mnw, .ref mhd, .ref mas, .ref mps, .ref msf, .ref mdt, .ref mhdd, .ref masd, .ref mpsd, .ref msfd, .ref mkp, .int 0, .ref mtp, .int 0, .int 0, .int 0, .int 0, .ref mld, .int 0, .ref mmd, .ref men, .ref mil, .ref mqu, .int 0, .int 0, .ref mbx])), (mnw, .inl (kI, 99, .inl (fun _ => 0)))]) [8, 9] rfl
      have hDc := hD.sub (ws' := [(m0, .inr (7, [.ref mnw, .ref mhd, .ref mas, .ref mps, .ref msf, .ref mdt, .ref mhdd, .ref masd, .ref mpsd, .ref msfd, .ref mkp, .int 0, .ref mtp, .int 0, .int 0, .int 0, .int 0, .ref mld, .int 0, .ref mmd, .ref men, .ref mil, .ref mqu, .int 0, .int 0, .ref mbx])), (mnw, .inl (kI, 99, .inl (fun _ => 0)))]) [8, 9] (by decide) rfl
      have hKc := hK.sub (tys' := [(kI, .int)]) [3] rfl
      refine ro_i (va_runV (As := [.int (xs (1 : Int32).toNatClampNeg), .int 1, .int (xs (3 : Int32).toNatClampNeg)]) (rest := [.int (-1)]) ⟨hx, hb, hml, hown, hts⟩ (c_X7_dots l dC dI m0 mnw mhd mas mps msf mdt mhdd masd mpsd msfd mkp mtp mld mmd men mil mqu mbx kI H.size (xs (1 : Int32).toNatClampNeg) 1 (xs (3 : Int32).toNatClampNeg) ) (cwV 3 hts (gV pq1686 pq1687 pq1688 pq81 pq1689) rfl rfl rfl (by decide +kernel) ⟨(Nat.le_of_ble_eq_true rfl), (Nat.le_of_ble_eq_true rfl)⟩) (pc_V hPc hDc hKc hN (va_recv hK hP (ci := 7) (q0 := 8) rfl rfl)) rfl rfl hl.1 rfl (lv_room (Nat.le_of_ble_eq_true rfl)) dL_law_1805 ⟨(Nat.le_of_ble_eq_true rfl), (Nat.le_of_ble_eq_true rfl)⟩) hS hP (fun r30 H locs hr30 hP hS => ?_)
      subst hr30
      refine lv_icmp_eq (tgt := 1950) hx hb dL_law_1808 (by decide) (fun c31 => ?_) (fun c31 => absurd (by decide +kernel) c31)
      refine lv_iinc (v := 6) (lv' := [(3, .int 6), (2, .ref m0), (1, .ref x0), (0, .ref b)]) hx hb dL_law_1950 hl (k := 0) rfl (by decide +kernel) (by decide) rfl (fun ls hl => ?_)
      refine lv_goto (tgt := 18) hx hb dL_law_1953 (by decide) ?_
      refine lv_iload_n hx hb dL_law_18 rfl (lv_at hl 0 rfl) ?_
      refine lv_aload_n hx hb dL_law_19 rfl (lv_at hl 3 rfl) ?_
      refine va_slen hx hb hX hbl hbA hS dL_law_20 ?_
      refine lv_bipush (v := 6) hx hb dL_law_21 (by decide +kernel) ?_
      refine lv_isub hx hb dL_law_23 ?_
      refine lv_topi (fun z32 ez32 => ?_)
      obtain rfl : z32 = 0 := ez32.trans (by decide +kernel)
      refine lv_icmp_gt (tgt := 1956) hx hb dL_law_24 (by decide) (fun c33 => ?_) (fun c33 => absurd (by decide +kernel) c33)
      refine lv_iconst (v := 1) hx hb dL_law_1956 (by decide +kernel) ?_
      refine va_forget (fun q hq => hS.2.2 q hq) ?_
      refine W.widen (k := 600000) (n := 7302249) (Nat.le_of_ble_eq_true rfl) (Nat.le_of_ble_eq_true rfl) ?_
      refine W.base ?_
      exact lw_ret (Drawn.sameBut.refl s.drawn lw_cs) hx hb hr hlocks dL_law_1957

set_option maxHeartbeats 4000000 in
set_option maxRecDepth 100000 in
theorem lw_case44 {p : Program} {e : Env} {s : State} {m : MethodId} {below : List Frame} {meth : Method} {c : Code} (l : Launch) {b : Nat} {xs : Nat → Int32} {dC : Nat → ClassId} {dI : Nat → Nat → Nat} (C0 : lw_At p s m meth c b 6 xs) {x0 tp nw dr rd sc sk fl ps sh nm nb dm db ss m0 mnw mhd mas mps msf mdt mhdd masd mpsd msfd mkp mtp mld mmd men mil mqu mbx : Nat} {kB kF kG kI kI2 kI3 kI4 kI5 kJ kJ2 kJ3 kJ4 kJ5 kZ kY : ClassId} {H : Heap} {locs : List Loc} {ls : Array Slot} (hK : va_K (dC, dI) vwCl [(kB, .byte), (kF, .object RX1), (kG, .object RX1), (kI, .int), (kI2, .int), (kI3, .int), (kI4, .int), (kI5, .int), (kJ, .long), (kJ2, .long), (kJ3, .long), (kJ4, .long), (kJ5, .long), (kZ, .boolean), (kY, .byte)] s) (hP : va_P (dC, dI) vwCl [(x0, .inr (6, [.ref tp, .int 0, .ref nw, .ref dr, .ref rd, .ref sc, .ref sk, .ref fl, .ref ps, .int 0, .int 0, .ref sh])), (tp, .inl (kB, 400, .inl (fun _ => 0))), (nw, .inr (1, [.ref nm, .ref nb, .int 0, .int 0, .int 0])), (dr, .inr (1, [.ref dm, .ref db, .int 0, .int 0, .int 0])), (rd, .inr (4, [.ref tp, .int 0, .int 0, .int 0, .int 0, .int 0])), (sc, .inr (5, [.ref nw, .ref ss, .int 0, .int (-1), .int 0, .int 0, .int 0, .int 0, .int 0])), (ps, .inl (kF, 10, .inr (.inr (.inr (.inr (fun _ => none)))))), (sh, .inl (kG, 2, .inr (.inr (.inr (.inr (fun _ => none)))))), (m0, .inr (7, [.ref mnw, .ref mhd, .ref mas, .ref mps, .ref msf, .ref mdt, .ref mhdd, .ref masd, .ref mpsd, .ref msfd, .ref mkp, .int 0, .ref mtp, .int 0, .int 0, .int 0, .int 0, .ref mld, .int 0, .ref mmd, .ref men, .ref mil, .ref mqu, .int 0, .int 0, .ref mbx])), (mnw, .inl (kI, 99, .inl (fun _ => 0))), (mhd, .inl (kI2, 99, .inl (fun _ => 0))), (mas, .inl (kI3, 99, .inl (fun _ => 0))), (mps, .inl (kI4, 990, .inl (fun _ => 0))), (msf, .inl (kI5, 198, .inl (fun _ => 0))), (mdt, .inl (kJ, 640, .inr (.inl (fun _ => 0)))), (mhdd, .inl (kJ2, 640, .inr (.inl (fun _ => 0)))), (masd, .inl (kJ3, 640, .inr (.inl (fun _ => 0)))), (mpsd, .inl (kJ4, 6400, .inr (.inl (fun _ => 0)))), (msfd, .inl (kJ5, 1280, .inr (.inl (fun _ => 0)))), (mkp, .inl (kZ, 2, .inl (fun _ => 0))), (mtp, .inl (kY, 400, .inl (fun _ => 0)))] H) (hD : va_D (fun q : Nat => s.heap.size ≤ q) [(x0, .inr (6, [.ref tp, .int 0, .ref nw, .ref dr, .ref rd, .ref sc, .ref sk, .ref fl, .ref ps, .int 0, .int 0, .ref sh])), (tp, .inl (kB, 400, .inl (fun _ => 0))), (nw, .inr (1, [.ref nm, .ref nb, .int 0, .int 0, .int 0])), (dr, .inr (1, [.ref dm, .ref db, .int 0, .int 0, .int 0])), (rd, .inr (4, [.ref tp, .int 0, .int 0, .int 0, .int 0, .int 0])), (sc, .inr (5, [.ref nw, .ref ss, .int 0, .int (-1), .int 0, .int 0, .int 0, .int 0, .int 0])), (ps, .inl (kF, 10, .inr (.inr (.inr (.inr (fun _ => none)))))), (sh, .inl (kG, 2, .inr (.inr (.inr (.inr (fun _ => none)))))), (m0, .inr (7, [.ref mnw, .ref mhd, .ref mas, .ref mps, .ref msf, .ref mdt, .ref mhdd, .ref masd, .ref mpsd, .ref msfd, .ref mkp, .int 0, .ref mtp, .int 0, .int 0, .int 0, .int 0, .ref mld, .int 0, .ref mmd, .ref men, .ref mil, .ref mqu, .int 0, .int 0, .ref mbx])), (mnw, .inl (kI, 99, .inl (fun _ => 0))), (mhd, .inl (kI2, 99, .inl (fun _ => 0))), (mas, .inl (kI3, 99, .inl (fun _ => 0))), (mps, .inl (kI4, 990, .inl (fun _ => 0))), (msf, .inl (kI5, 198, .inl (fun _ => 0))), (mdt, .inl (kJ, 640, .inr (.inl (fun _ => 0)))), (mhdd, .inl (kJ2, 640, .inr (.inl (fun _ => 0)))), (masd, .inl (kJ3, 640, .inr (.inl (fun _ => 0)))), (mpsd, .inl (kJ4, 6400, .inr (.inl (fun _ => 0)))), (msfd, .inl (kJ5, 1280, .inr (.inl (fun _ => 0)))), (mkp, .inl (kZ, 2, .inl (fun _ => 0))), (mtp, .inl (kY, 400, .inl (fun _ => 0)))]) (hS : va_S (fun q : Nat => s.heap.size ≤ q) s.heap H locs) (hl : lv_has ls 4 [(3, .int 0), (2, .ref m0), (1, .ref x0), (0, .ref b)]) : W p l e room_1 s m #[Value.ref b] below meth c H locs 110 27528 (lw_Z below #[Value.ref b] s) (F0 m 1813 ls []) := by
  obtain ⟨hx, hb, hr, hml, hown, htl, hX, hbl, hlocks, hgv⟩ := id C0
  have hb : c.code = cL_law := hb
  have hown : s.vm.findClass RL = some m.cls := hown
  have hts : ∀ w ∈ pw, w.before #[Value.ref b] s = true := fun w h => htl w (pw_tbl h)
  have hN : xN s := xN_of htl
  have hA : ∀ q : Nat, s.heap.size ≤ q → (fun q : Nat => s.heap.size ≤ q) q := fun _ h => h
  have hbA : ¬ (fun q : Nat => s.heap.size ≤ q) b := Nat.not_le.mpr hbl
  refine lv_aload_n hx hb dL_law_1813 rfl (lv_at hl 2 rfl) ?_
  refine lv_aload_n hx hb dL_law_1814 rfl (lv_at hl 3 rfl) ?_
  refine lv_iload_n hx hb dL_law_1815 rfl (lv_at hl 0 rfl) ?_
  refine lv_iconst (v := 1) hx hb dL_law_1816 (by decide +kernel) ?_
  refine lv_iadd hx hb dL_law_1817 ?_
  refine lv_topi (fun z1 ez1 => ?_)
  obtain rfl : z1 = 1 := ez1.trans (by decide +kernel)
  refine va_sld hx hb hX hbl hbA hS (in_d (by decide +kernel)) dL_law_1818 ?_
  refine lv_aload_n hx hb dL_law_1819 rfl (lv_at hl 3 rfl) ?_
  refine lv_iload_n hx hb dL_law_1820 rfl (lv_at hl 0 rfl) ?_
  refine lv_iconst (v := 2) hx hb dL_law_1821 (by decide +kernel) ?_
  refine lv_iadd hx hb dL_law_1822 ?_
  refine lv_topi (fun z2 ez2 => ?_)
  obtain rfl : z2 = 2 := ez2.trans (by decide +kernel)
  refine va_sld hx hb hX hbl hbA hS (in_d (by decide +kernel)) dL_law_1823 ?_
  have hPc := hP.sub (ws' := [(x0, .inr (6, [.ref tp, .int 0, .ref nw, .ref dr, .ref rd, .ref sc, .ref sk, .ref fl, .ref ps, .int 0, .int 0, .ref sh])), (nw, .inr (1, [.ref nm, .ref nb, .int 0, .int 0, .int 0]))]) [0, 2] rfl
  have hDc := hD.sub (ws' := [(x0, .inr (6, [.ref tp, .int 0, .ref nw, .ref dr, .ref rd, .ref sc, .ref sk, .ref fl, .ref ps, .int 0, .int 0, .ref sh])), (nw, .inr (1, [.ref nm, .ref nb, .int 0, .int 0, .int 0]))]) [0, 2] (by decide) rfl
  have hKc := hK.sub (tys' := []) [] rfl
  refine ro_i (va_runV (As := [.int (xs (1 : Int32).toNatClampNeg), .int (xs (2 : Int32).toNatClampNeg)]) (rest := []) ⟨hx, hb, hml, hown, hts⟩ (c_X6_spread l dC dI x0 tp nw dr rd sc sk fl ps sh nm nb H.size (xs (1 : Int32).toNatClampNeg) (xs (2 : Int32).toNatClampNeg) ) (cwV 2 hts (gV pq924 pq925 pq926 pq74 pq927) rfl rfl rfl (by decide +kernel) ⟨(Nat.le_of_ble_eq_true rfl), (Nat.le_of_ble_eq_true rfl)⟩) (pc_V hPc hDc hKc hN (va_recv hK hP (ci := 6) (q0 := 0) rfl rfl)) rfl rfl hl.1 rfl (lv_room (Nat.le_of_ble_eq_true rfl)) dL_law_1824 ⟨(Nat.le_of_ble_eq_true rfl), (Nat.le_of_ble_eq_true rfl)⟩) hS hP (fun r3 H locs hr3 hP hS => ?_)
  subst hr3
  refine lv_aload_n hx hb dL_law_1827 rfl (lv_at hl 1 rfl) ?_
  refine lv_aload_n hx hb dL_law_1828 rfl (lv_at hl 3 rfl) ?_
  refine lv_iload_n hx hb dL_law_1829 rfl (lv_at hl 0 rfl) ?_
  refine lv_iconst (v := 1) hx hb dL_law_1830 (by decide +kernel) ?_
  refine lv_iadd hx hb dL_law_1831 ?_
  refine lv_topi (fun z4 ez4 => ?_)
  obtain rfl : z4 = 1 := ez4.trans (by decide +kernel)
  refine va_sld hx hb hX hbl hbA hS (in_d (by decide +kernel)) dL_law_1832 ?_
  refine lv_aload_n hx hb dL_law_1833 rfl (lv_at hl 3 rfl) ?_
  refine lv_iload_n hx hb dL_law_1834 rfl (lv_at hl 0 rfl) ?_
  refine lv_iconst (v := 2) hx hb dL_law_1835 (by decide +kernel) ?_
  refine lv_iadd hx hb dL_law_1836 ?_
  refine lv_topi (fun z5 ez5 => ?_)
  obtain rfl : z5 = 2 := ez5.trans (by decide +kernel)
  refine va_sld hx hb hX hbl hbA hS (in_d (by decide +kernel)) dL_law_1837 ?_
  have hPc := hP.sub (ws' := [(m0, .inr (7, [.ref mnw, .ref mhd, .ref mas, .ref mps, .ref msf, .ref mdt, .ref mhdd, .ref masd, .ref mpsd, .ref msfd, .ref mkp, .int 0, .ref mtp, .int 0, .int 0, .int 0, .int 0, .ref mld, .int 0, .ref mmd, .ref men, .ref mil, .ref mqu, .int 0, .int 0, .ref mbx])), (mnw, .inl (kI, 99, .inl (fun _ => 0)))]) [8, 9] rfl
  have hDc := hD.sub (ws' := [(m0, .inr (7, [.ref mnw, .ref mhd, .ref mas, .ref mps, .ref msf, .ref mdt, .ref mhdd, .ref masd, .ref mpsd, .ref msfd, .ref mkp, .int 0, .ref mtp, .int 0, .int 0, .int 0, .int 0, .ref mld, .int 0, .ref mmd, .ref men, .ref mil, .ref mqu, .int 0, .int 0, .ref mbx])), (mnw, .inl (kI, 99, .inl (fun _ => 0)))]) [8, 9] (by decide) rfl
  have hKc := hK.sub (tys' := [(kI, .int)]) [3] rfl
  refine ro_i (va_runV (As := [.int (xs (1 : Int32).toNatClampNeg), .int (xs (2 : Int32).toNatClampNeg)]) (rest := [.int (-1)]) ⟨hx, hb, hml, hown, hts⟩ (c_X7_spread l dC dI m0 mnw mhd mas mps msf mdt mhdd masd mpsd msfd mkp mtp mld mmd men mil mqu mbx kI H.size (xs (1 : Int32).toNatClampNeg) (xs (2 : Int32).toNatClampNeg) ) (cwV 2 hts (gV pq1690 pq1691 pq1692 pq81 pq1693) rfl rfl rfl (by decide +kernel) ⟨(Nat.le_of_ble_eq_true rfl), (Nat.le_of_ble_eq_true rfl)⟩) (pc_V hPc hDc hKc hN (va_recv hK hP (ci := 7) (q0 := 8) rfl rfl)) rfl rfl hl.1 rfl (lv_room (Nat.le_of_ble_eq_true rfl)) dL_law_1838 ⟨(Nat.le_of_ble_eq_true rfl), (Nat.le_of_ble_eq_true rfl)⟩) hS hP (fun r6 H locs hr6 hP hS => ?_)
  subst hr6
  refine lv_icmp_eq (tgt := 1950) hx hb dL_law_1841 (by decide) (fun c7 => ?_) (fun c7 => absurd (by decide +kernel) c7)
  refine lv_iinc (v := 6) (lv' := [(3, .int 6), (2, .ref m0), (1, .ref x0), (0, .ref b)]) hx hb dL_law_1950 hl (k := 0) rfl (by decide +kernel) (by decide) rfl (fun ls hl => ?_)
  refine lv_goto (tgt := 18) hx hb dL_law_1953 (by decide) ?_
  refine lv_iload_n hx hb dL_law_18 rfl (lv_at hl 0 rfl) ?_
  refine lv_aload_n hx hb dL_law_19 rfl (lv_at hl 3 rfl) ?_
  refine va_slen hx hb hX hbl hbA hS dL_law_20 ?_
  refine lv_bipush (v := 6) hx hb dL_law_21 (by decide +kernel) ?_
  refine lv_isub hx hb dL_law_23 ?_
  refine lv_topi (fun z8 ez8 => ?_)
  obtain rfl : z8 = 0 := ez8.trans (by decide +kernel)
  refine lv_icmp_gt (tgt := 1956) hx hb dL_law_24 (by decide) (fun c9 => ?_) (fun c9 => absurd (by decide +kernel) c9)
  refine lv_iconst (v := 1) hx hb dL_law_1956 (by decide +kernel) ?_
  refine va_forget (fun q hq => hS.2.2 q hq) ?_
  refine W.widen (k := 600000) (n := 7302249) (Nat.le_of_ble_eq_true rfl) (Nat.le_of_ble_eq_true rfl) ?_
  refine W.base ?_
  exact lw_ret (Drawn.sameBut.refl s.drawn lw_cs) hx hb hr hlocks dL_law_1957

set_option maxHeartbeats 4000000 in
set_option maxRecDepth 100000 in
theorem lw_case45 {p : Program} {e : Env} {s : State} {m : MethodId} {below : List Frame} {meth : Method} {c : Code} (l : Launch) {b : Nat} {xs : Nat → Int32} {dC : Nat → ClassId} {dI : Nat → Nat → Nat} (C0 : lw_At p s m meth c b 6 xs) {x0 tp nw dr rd sc sk fl ps sh nm nb dm db ss m0 mnw mhd mas mps msf mdt mhdd masd mpsd msfd mkp mtp mld mmd men mil mqu mbx : Nat} {kB kF kG kI kI2 kI3 kI4 kI5 kJ kJ2 kJ3 kJ4 kJ5 kZ kY : ClassId} {H : Heap} {locs : List Loc} {ls : Array Slot} (hK : va_K (dC, dI) vwCl [(kB, .byte), (kF, .object RX1), (kG, .object RX1), (kI, .int), (kI2, .int), (kI3, .int), (kI4, .int), (kI5, .int), (kJ, .long), (kJ2, .long), (kJ3, .long), (kJ4, .long), (kJ5, .long), (kZ, .boolean), (kY, .byte)] s) (hP : va_P (dC, dI) vwCl [(x0, .inr (6, [.ref tp, .int 0, .ref nw, .ref dr, .ref rd, .ref sc, .ref sk, .ref fl, .ref ps, .int 0, .int 0, .ref sh])), (tp, .inl (kB, 400, .inl (fun _ => 0))), (nw, .inr (1, [.ref nm, .ref nb, .int 0, .int 0, .int 0])), (dr, .inr (1, [.ref dm, .ref db, .int 0, .int 0, .int 0])), (rd, .inr (4, [.ref tp, .int 0, .int 0, .int 0, .int 0, .int 0])), (sc, .inr (5, [.ref nw, .ref ss, .int 0, .int (-1), .int 0, .int 0, .int 0, .int 0, .int 0])), (ps, .inl (kF, 10, .inr (.inr (.inr (.inr (fun _ => none)))))), (sh, .inl (kG, 2, .inr (.inr (.inr (.inr (fun _ => none)))))), (m0, .inr (7, [.ref mnw, .ref mhd, .ref mas, .ref mps, .ref msf, .ref mdt, .ref mhdd, .ref masd, .ref mpsd, .ref msfd, .ref mkp, .int 0, .ref mtp, .int 0, .int 0, .int 0, .int 0, .ref mld, .int 0, .ref mmd, .ref men, .ref mil, .ref mqu, .int 0, .int 0, .ref mbx])), (mnw, .inl (kI, 99, .inl (fun _ => 0))), (mhd, .inl (kI2, 99, .inl (fun _ => 0))), (mas, .inl (kI3, 99, .inl (fun _ => 0))), (mps, .inl (kI4, 990, .inl (fun _ => 0))), (msf, .inl (kI5, 198, .inl (fun _ => 0))), (mdt, .inl (kJ, 640, .inr (.inl (fun _ => 0)))), (mhdd, .inl (kJ2, 640, .inr (.inl (fun _ => 0)))), (masd, .inl (kJ3, 640, .inr (.inl (fun _ => 0)))), (mpsd, .inl (kJ4, 6400, .inr (.inl (fun _ => 0)))), (msfd, .inl (kJ5, 1280, .inr (.inl (fun _ => 0)))), (mkp, .inl (kZ, 2, .inl (fun _ => 0))), (mtp, .inl (kY, 400, .inl (fun _ => 0)))] H) (hD : va_D (fun q : Nat => s.heap.size ≤ q) [(x0, .inr (6, [.ref tp, .int 0, .ref nw, .ref dr, .ref rd, .ref sc, .ref sk, .ref fl, .ref ps, .int 0, .int 0, .ref sh])), (tp, .inl (kB, 400, .inl (fun _ => 0))), (nw, .inr (1, [.ref nm, .ref nb, .int 0, .int 0, .int 0])), (dr, .inr (1, [.ref dm, .ref db, .int 0, .int 0, .int 0])), (rd, .inr (4, [.ref tp, .int 0, .int 0, .int 0, .int 0, .int 0])), (sc, .inr (5, [.ref nw, .ref ss, .int 0, .int (-1), .int 0, .int 0, .int 0, .int 0, .int 0])), (ps, .inl (kF, 10, .inr (.inr (.inr (.inr (fun _ => none)))))), (sh, .inl (kG, 2, .inr (.inr (.inr (.inr (fun _ => none)))))), (m0, .inr (7, [.ref mnw, .ref mhd, .ref mas, .ref mps, .ref msf, .ref mdt, .ref mhdd, .ref masd, .ref mpsd, .ref msfd, .ref mkp, .int 0, .ref mtp, .int 0, .int 0, .int 0, .int 0, .ref mld, .int 0, .ref mmd, .ref men, .ref mil, .ref mqu, .int 0, .int 0, .ref mbx])), (mnw, .inl (kI, 99, .inl (fun _ => 0))), (mhd, .inl (kI2, 99, .inl (fun _ => 0))), (mas, .inl (kI3, 99, .inl (fun _ => 0))), (mps, .inl (kI4, 990, .inl (fun _ => 0))), (msf, .inl (kI5, 198, .inl (fun _ => 0))), (mdt, .inl (kJ, 640, .inr (.inl (fun _ => 0)))), (mhdd, .inl (kJ2, 640, .inr (.inl (fun _ => 0)))), (masd, .inl (kJ3, 640, .inr (.inl (fun _ => 0)))), (mpsd, .inl (kJ4, 6400, .inr (.inl (fun _ => 0)))), (msfd, .inl (kJ5, 1280, .inr (.inl (fun _ => 0)))), (mkp, .inl (kZ, 2, .inl (fun _ => 0))), (mtp, .inl (kY, 400, .inl (fun _ => 0)))]) (hS : va_S (fun q : Nat => s.heap.size ≤ q) s.heap H locs) (hl : lv_has ls 4 [(3, .int 0), (2, .ref m0), (1, .ref x0), (0, .ref b)]) : W p l e room_1 s m #[Value.ref b] below meth c H locs 110 27528 (lw_Z below #[Value.ref b] s) (F0 m 1846 ls []) := by
  obtain ⟨hx, hb, hr, hml, hown, htl, hX, hbl, hlocks, hgv⟩ := id C0
  have hb : c.code = cL_law := hb
  have hown : s.vm.findClass RL = some m.cls := hown
  have hts : ∀ w ∈ pw, w.before #[Value.ref b] s = true := fun w h => htl w (pw_tbl h)
  have hN : xN s := xN_of htl
  have hA : ∀ q : Nat, s.heap.size ≤ q → (fun q : Nat => s.heap.size ≤ q) q := fun _ h => h
  have hbA : ¬ (fun q : Nat => s.heap.size ≤ q) b := Nat.not_le.mpr hbl
  refine lv_aload_n hx hb dL_law_1846 rfl (lv_at hl 2 rfl) ?_
  refine lv_aload_n hx hb dL_law_1847 rfl (lv_at hl 3 rfl) ?_
  refine lv_iload_n hx hb dL_law_1848 rfl (lv_at hl 0 rfl) ?_
  refine lv_iconst (v := 1) hx hb dL_law_1849 (by decide +kernel) ?_
  refine lv_iadd hx hb dL_law_1850 ?_
  refine lv_topi (fun z1 ez1 => ?_)
  obtain rfl : z1 = 1 := ez1.trans (by decide +kernel)
  refine va_sld hx hb hX hbl hbA hS (in_d (by decide +kernel)) dL_law_1851 ?_
  have hPc := hP.sub (ws' := [(x0, .inr (6, [.ref tp, .int 0, .ref nw, .ref dr, .ref rd, .ref sc, .ref sk, .ref fl, .ref ps, .int 0, .int 0, .ref sh])), (nw, .inr (1, [.ref nm, .ref nb, .int 0, .int 0, .int 0]))]) [0, 2] rfl
  have hDc := hD.sub (ws' := [(x0, .inr (6, [.ref tp, .int 0, .ref nw, .ref dr, .ref rd, .ref sc, .ref sk, .ref fl, .ref ps, .int 0, .int 0, .ref sh])), (nw, .inr (1, [.ref nm, .ref nb, .int 0, .int 0, .int 0]))]) [0, 2] (by decide) rfl
  have hKc := hK.sub (tys' := []) [] rfl
  refine ro_l (va_runV (As := [.int (xs (1 : Int32).toNatClampNeg)]) (rest := []) ⟨hx, hb, hml, hown, hts⟩ (c_X6_share l dC dI x0 tp nw dr rd sc sk fl ps sh nm nb H.size (xs (1 : Int32).toNatClampNeg) ) (cwV 1 hts (gV pq945 pq946 pq947 pq74 pq948) rfl rfl rfl (by decide +kernel) ⟨(Nat.le_of_ble_eq_true rfl), (Nat.le_of_ble_eq_true rfl)⟩) (pc_V hPc hDc hKc hN (va_recv hK hP (ci := 6) (q0 := 0) rfl rfl)) rfl rfl hl.1 rfl (lv_room (Nat.le_of_ble_eq_true rfl)) dL_law_1852 ⟨(Nat.le_of_ble_eq_true rfl), (Nat.le_of_ble_eq_true rfl)⟩) hS hP (fun r2 H locs hr2 hP hS => ?_)
  subst hr2
  refine lv_aload_n hx hb dL_law_1855 rfl (lv_at hl 1 rfl) ?_
  refine lv_aload_n hx hb dL_law_1856 rfl (lv_at hl 3 rfl) ?_
  refine lv_iload_n hx hb dL_law_1857 rfl (lv_at hl 0 rfl) ?_
  refine lv_iconst (v := 1) hx hb dL_law_1858 (by decide +kernel) ?_
  refine lv_iadd hx hb dL_law_1859 ?_
  refine lv_topi (fun z3 ez3 => ?_)
  obtain rfl : z3 = 1 := ez3.trans (by decide +kernel)
  refine va_sld hx hb hX hbl hbA hS (in_d (by decide +kernel)) dL_law_1860 ?_
  have hPc := hP.sub (ws' := [(m0, .inr (7, [.ref mnw, .ref mhd, .ref mas, .ref mps, .ref msf, .ref mdt, .ref mhdd, .ref masd, .ref mpsd, .ref msfd, .ref mkp, .int 0, .ref mtp, .int 0, .int 0, .int 0, .int 0, .ref mld, .int 0, .ref mmd, .ref men, .ref mil, .ref mqu, .int 0, .int 0, .ref mbx])), (mnw, .inl (kI, 99, .inl (fun _ => 0)))]) [8, 9] rfl
  have hDc := hD.sub (ws' := [(m0, .inr (7, [.ref mnw, .ref mhd, .ref mas, .ref mps, .ref msf, .ref mdt, .ref mhdd, .ref masd, .ref mpsd, .ref msfd, .ref mkp, .int 0, .ref mtp, .int 0, .int 0, .int 0, .int 0, .ref mld, .int 0, .ref mmd, .ref men, .ref mil, .ref mqu, .int 0, .int 0, .ref mbx])), (mnw, .inl (kI, 99, .inl (fun _ => 0)))]) [8, 9] (by decide) rfl
  have hKc := hK.sub (tys' := [(kI, .int)]) [3] rfl
  refine ro_l (va_runV (As := [.int (xs (1 : Int32).toNatClampNeg)]) (rest := [.long (-1)]) ⟨hx, hb, hml, hown, hts⟩ (c_X7_share l dC dI m0 mnw mhd mas mps msf mdt mhdd masd mpsd msfd mkp mtp mld mmd men mil mqu mbx kI H.size (xs (1 : Int32).toNatClampNeg) ) (cwV 1 hts (gV pq1698 pq1699 pq1700 pq81 pq1701) rfl rfl rfl (by decide +kernel) ⟨(Nat.le_of_ble_eq_true rfl), (Nat.le_of_ble_eq_true rfl)⟩) (pc_V hPc hDc hKc hN (va_recv hK hP (ci := 7) (q0 := 8) rfl rfl)) rfl rfl hl.1 rfl (lv_room (Nat.le_of_ble_eq_true rfl)) dL_law_1861 ⟨(Nat.le_of_ble_eq_true rfl), (Nat.le_of_ble_eq_true rfl)⟩) hS hP (fun r4 H locs hr4 hP hS => ?_)
  subst hr4
  refine W.lcmp hx hb dL_law_1864 ?_
  refine lv_topi (fun z5 ez5 => ?_)
  obtain rfl : z5 = 0 := ez5.trans (by decide +kernel)
  refine lv_if_eq (tgt := 1950) hx hb dL_law_1865 (by decide) (fun c6 => ?_) (fun c6 => absurd (by decide +kernel) c6)
  refine lv_iinc (v := 6) (lv' := [(3, .int 6), (2, .ref m0), (1, .ref x0), (0, .ref b)]) hx hb dL_law_1950 hl (k := 0) rfl (by decide +kernel) (by decide) rfl (fun ls hl => ?_)
  refine lv_goto (tgt := 18) hx hb dL_law_1953 (by decide) ?_
  refine lv_iload_n hx hb dL_law_18 rfl (lv_at hl 0 rfl) ?_
  refine lv_aload_n hx hb dL_law_19 rfl (lv_at hl 3 rfl) ?_
  refine va_slen hx hb hX hbl hbA hS dL_law_20 ?_
  refine lv_bipush (v := 6) hx hb dL_law_21 (by decide +kernel) ?_
  refine lv_isub hx hb dL_law_23 ?_
  refine lv_topi (fun z7 ez7 => ?_)
  obtain rfl : z7 = 0 := ez7.trans (by decide +kernel)
  refine lv_icmp_gt (tgt := 1956) hx hb dL_law_24 (by decide) (fun c8 => ?_) (fun c8 => absurd (by decide +kernel) c8)
  refine lv_iconst (v := 1) hx hb dL_law_1956 (by decide +kernel) ?_
  refine va_forget (fun q hq => hS.2.2 q hq) ?_
  refine W.widen (k := 600000) (n := 7302249) (Nat.le_of_ble_eq_true rfl) (Nat.le_of_ble_eq_true rfl) ?_
  refine W.base ?_
  exact lw_ret (Drawn.sameBut.refl s.drawn lw_cs) hx hb hr hlocks dL_law_1957

set_option maxHeartbeats 4000000 in
set_option maxRecDepth 100000 in
theorem lw_case46 {p : Program} {e : Env} {s : State} {m : MethodId} {below : List Frame} {meth : Method} {c : Code} (l : Launch) {b : Nat} {xs : Nat → Int32} {dC : Nat → ClassId} {dI : Nat → Nat → Nat} (C0 : lw_At p s m meth c b 6 xs) {x0 tp nw dr rd sc sk fl ps sh nm nb dm db ss m0 mnw mhd mas mps msf mdt mhdd masd mpsd msfd mkp mtp mld mmd men mil mqu mbx : Nat} {kB kF kG kI kI2 kI3 kI4 kI5 kJ kJ2 kJ3 kJ4 kJ5 kZ kY : ClassId} {H : Heap} {locs : List Loc} {ls : Array Slot} (hK : va_K (dC, dI) vwCl [(kB, .byte), (kF, .object RX1), (kG, .object RX1), (kI, .int), (kI2, .int), (kI3, .int), (kI4, .int), (kI5, .int), (kJ, .long), (kJ2, .long), (kJ3, .long), (kJ4, .long), (kJ5, .long), (kZ, .boolean), (kY, .byte)] s) (hP : va_P (dC, dI) vwCl [(x0, .inr (6, [.ref tp, .int 0, .ref nw, .ref dr, .ref rd, .ref sc, .ref sk, .ref fl, .ref ps, .int 0, .int 0, .ref sh])), (tp, .inl (kB, 400, .inl (fun _ => 0))), (nw, .inr (1, [.ref nm, .ref nb, .int 0, .int 0, .int 0])), (dr, .inr (1, [.ref dm, .ref db, .int 0, .int 0, .int 0])), (rd, .inr (4, [.ref tp, .int 0, .int 0, .int 0, .int 0, .int 0])), (sc, .inr (5, [.ref nw, .ref ss, .int 0, .int (-1), .int 0, .int 0, .int 0, .int 0, .int 0])), (ps, .inl (kF, 10, .inr (.inr (.inr (.inr (fun _ => none)))))), (sh, .inl (kG, 2, .inr (.inr (.inr (.inr (fun _ => none)))))), (m0, .inr (7, [.ref mnw, .ref mhd, .ref mas, .ref mps, .ref msf, .ref mdt, .ref mhdd, .ref masd, .ref mpsd, .ref msfd, .ref mkp, .int 0, .ref mtp, .int 0, .int 0, .int 0, .int 0, .ref mld, .int 0, .ref mmd, .ref men, .ref mil, .ref mqu, .int 0, .int 0, .ref mbx])), (mnw, .inl (kI, 99, .inl (fun _ => 0))), (mhd, .inl (kI2, 99, .inl (fun _ => 0))), (mas, .inl (kI3, 99, .inl (fun _ => 0))), (mps, .inl (kI4, 990, .inl (fun _ => 0))), (msf, .inl (kI5, 198, .inl (fun _ => 0))), (mdt, .inl (kJ, 640, .inr (.inl (fun _ => 0)))), (mhdd, .inl (kJ2, 640, .inr (.inl (fun _ => 0)))), (masd, .inl (kJ3, 640, .inr (.inl (fun _ => 0)))), (mpsd, .inl (kJ4, 6400, .inr (.inl (fun _ => 0)))), (msfd, .inl (kJ5, 1280, .inr (.inl (fun _ => 0)))), (mkp, .inl (kZ, 2, .inl (fun _ => 0))), (mtp, .inl (kY, 400, .inl (fun _ => 0)))] H) (hD : va_D (fun q : Nat => s.heap.size ≤ q) [(x0, .inr (6, [.ref tp, .int 0, .ref nw, .ref dr, .ref rd, .ref sc, .ref sk, .ref fl, .ref ps, .int 0, .int 0, .ref sh])), (tp, .inl (kB, 400, .inl (fun _ => 0))), (nw, .inr (1, [.ref nm, .ref nb, .int 0, .int 0, .int 0])), (dr, .inr (1, [.ref dm, .ref db, .int 0, .int 0, .int 0])), (rd, .inr (4, [.ref tp, .int 0, .int 0, .int 0, .int 0, .int 0])), (sc, .inr (5, [.ref nw, .ref ss, .int 0, .int (-1), .int 0, .int 0, .int 0, .int 0, .int 0])), (ps, .inl (kF, 10, .inr (.inr (.inr (.inr (fun _ => none)))))), (sh, .inl (kG, 2, .inr (.inr (.inr (.inr (fun _ => none)))))), (m0, .inr (7, [.ref mnw, .ref mhd, .ref mas, .ref mps, .ref msf, .ref mdt, .ref mhdd, .ref masd, .ref mpsd, .ref msfd, .ref mkp, .int 0, .ref mtp, .int 0, .int 0, .int 0, .int 0, .ref mld, .int 0, .ref mmd, .ref men, .ref mil, .ref mqu, .int 0, .int 0, .ref mbx])), (mnw, .inl (kI, 99, .inl (fun _ => 0))), (mhd, .inl (kI2, 99, .inl (fun _ => 0))), (mas, .inl (kI3, 99, .inl (fun _ => 0))), (mps, .inl (kI4, 990, .inl (fun _ => 0))), (msf, .inl (kI5, 198, .inl (fun _ => 0))), (mdt, .inl (kJ, 640, .inr (.inl (fun _ => 0)))), (mhdd, .inl (kJ2, 640, .inr (.inl (fun _ => 0)))), (masd, .inl (kJ3, 640, .inr (.inl (fun _ => 0)))), (mpsd, .inl (kJ4, 6400, .inr (.inl (fun _ => 0)))), (msfd, .inl (kJ5, 1280, .inr (.inl (fun _ => 0)))), (mkp, .inl (kZ, 2, .inl (fun _ => 0))), (mtp, .inl (kY, 400, .inl (fun _ => 0)))]) (hS : va_S (fun q : Nat => s.heap.size ≤ q) s.heap H locs) (hl : lv_has ls 4 [(3, .int 0), (2, .ref m0), (1, .ref x0), (0, .ref b)]) : W p l e room_1 s m #[Value.ref b] below meth c H locs 110 27528 (lw_Z below #[Value.ref b] s) (F0 m 1870 ls []) := by
  obtain ⟨hx, hb, hr, hml, hown, htl, hX, hbl, hlocks, hgv⟩ := id C0
  have hb : c.code = cL_law := hb
  have hown : s.vm.findClass RL = some m.cls := hown
  have hts : ∀ w ∈ pw, w.before #[Value.ref b] s = true := fun w h => htl w (pw_tbl h)
  have hN : xN s := xN_of htl
  have hA : ∀ q : Nat, s.heap.size ≤ q → (fun q : Nat => s.heap.size ≤ q) q := fun _ h => h
  have hbA : ¬ (fun q : Nat => s.heap.size ≤ q) b := Nat.not_le.mpr hbl
  refine lv_aload_n hx hb dL_law_1870 rfl (lv_at hl 2 rfl) ?_
  have hPc := hP.sub (ws' := [(x0, .inr (6, [.ref tp, .int 0, .ref nw, .ref dr, .ref rd, .ref sc, .ref sk, .ref fl, .ref ps, .int 0, .int 0, .ref sh])), (nw, .inr (1, [.ref nm, .ref nb, .int 0, .int 0, .int 0]))]) [0, 2] rfl
  have hDc := hD.sub (ws' := [(x0, .inr (6, [.ref tp, .int 0, .ref nw, .ref dr, .ref rd, .ref sc, .ref sk, .ref fl, .ref ps, .int 0, .int 0, .ref sh])), (nw, .inr (1, [.ref nm, .ref nb, .int 0, .int 0, .int 0]))]) [0, 2] (by decide) rfl
  have hKc := hK.sub (tys' := []) [] rfl
  refine ro_l (va_runV (As := []) (rest := []) ⟨hx, hb, hml, hown, hts⟩ (c_X6_digest l dC dI x0 tp nw dr rd sc sk fl ps sh nm nb H.size  ) (cwV 0 hts (gV pq1095 pq1096 pq1097 pq74 pq1098) rfl rfl rfl (by decide +kernel) ⟨(Nat.le_of_ble_eq_true rfl), (Nat.le_of_ble_eq_true rfl)⟩) (pc_V hPc hDc hKc hN (va_recv hK hP (ci := 6) (q0 := 0) rfl rfl)) rfl rfl hl.1 rfl (lv_room (Nat.le_of_ble_eq_true rfl)) dL_law_1871 ⟨(Nat.le_of_ble_eq_true rfl), (Nat.le_of_ble_eq_true rfl)⟩) hS hP (fun r1 H locs hr1 hP hS => ?_)
  subst hr1
  refine lv_aload_n hx hb dL_law_1874 rfl (lv_at hl 1 rfl) ?_
  have hPc := hP.sub (ws' := [(m0, .inr (7, [.ref mnw, .ref mhd, .ref mas, .ref mps, .ref msf, .ref mdt, .ref mhdd, .ref masd, .ref mpsd, .ref msfd, .ref mkp, .int 0, .ref mtp, .int 0, .int 0, .int 0, .int 0, .ref mld, .int 0, .ref mmd, .ref men, .ref mil, .ref mqu, .int 0, .int 0, .ref mbx])), (mnw, .inl (kI, 99, .inl (fun _ => 0)))]) [8, 9] rfl
  have hDc := hD.sub (ws' := [(m0, .inr (7, [.ref mnw, .ref mhd, .ref mas, .ref mps, .ref msf, .ref mdt, .ref mhdd, .ref masd, .ref mpsd, .ref msfd, .ref mkp, .int 0, .ref mtp, .int 0, .int 0, .int 0, .int 0, .ref mld, .int 0, .ref mmd, .ref men, .ref mil, .ref mqu, .int 0, .int 0, .ref mbx])), (mnw, .inl (kI, 99, .inl (fun _ => 0)))]) [8, 9] (by decide) rfl
  have hKc := hK.sub (tys' := [(kI, .int)]) [3] rfl
  refine ro_l (va_runV (As := []) (rest := [.long 17]) ⟨hx, hb, hml, hown, hts⟩ (c_X7_digest l dC dI m0 mnw mhd mas mps msf mdt mhdd masd mpsd msfd mkp mtp mld mmd men mil mqu mbx kI H.size  ) (cwV 0 hts (gV pq1713 pq1714 pq1715 pq81 pq1716) rfl rfl rfl (by decide +kernel) ⟨(Nat.le_of_ble_eq_true rfl), (Nat.le_of_ble_eq_true rfl)⟩) (pc_V hPc hDc hKc hN (va_recv hK hP (ci := 7) (q0 := 8) rfl rfl)) rfl rfl hl.1 rfl (lv_room (Nat.le_of_ble_eq_true rfl)) dL_law_1875 ⟨(Nat.le_of_ble_eq_true rfl), (Nat.le_of_ble_eq_true rfl)⟩) hS hP (fun r2 H locs hr2 hP hS => ?_)
  subst hr2
  refine W.lcmp hx hb dL_law_1878 ?_
  refine lv_topi (fun z3 ez3 => ?_)
  obtain rfl : z3 = 0 := ez3.trans (by decide +kernel)
  refine lv_if_eq (tgt := 1950) hx hb dL_law_1879 (by decide) (fun c4 => ?_) (fun c4 => absurd (by decide +kernel) c4)
  refine lv_iinc (v := 6) (lv' := [(3, .int 6), (2, .ref m0), (1, .ref x0), (0, .ref b)]) hx hb dL_law_1950 hl (k := 0) rfl (by decide +kernel) (by decide) rfl (fun ls hl => ?_)
  refine lv_goto (tgt := 18) hx hb dL_law_1953 (by decide) ?_
  refine lv_iload_n hx hb dL_law_18 rfl (lv_at hl 0 rfl) ?_
  refine lv_aload_n hx hb dL_law_19 rfl (lv_at hl 3 rfl) ?_
  refine va_slen hx hb hX hbl hbA hS dL_law_20 ?_
  refine lv_bipush (v := 6) hx hb dL_law_21 (by decide +kernel) ?_
  refine lv_isub hx hb dL_law_23 ?_
  refine lv_topi (fun z5 ez5 => ?_)
  obtain rfl : z5 = 0 := ez5.trans (by decide +kernel)
  refine lv_icmp_gt (tgt := 1956) hx hb dL_law_24 (by decide) (fun c6 => ?_) (fun c6 => absurd (by decide +kernel) c6)
  refine lv_iconst (v := 1) hx hb dL_law_1956 (by decide +kernel) ?_
  refine va_forget (fun q hq => hS.2.2 q hq) ?_
  refine W.widen (k := 600000) (n := 7302249) (Nat.le_of_ble_eq_true rfl) (Nat.le_of_ble_eq_true rfl) ?_
  refine W.base ?_
  exact lw_ret (Drawn.sameBut.refl s.drawn lw_cs) hx hb hr hlocks dL_law_1957

set_option maxHeartbeats 4000000 in
set_option maxRecDepth 100000 in
theorem lw_case47 {p : Program} {e : Env} {s : State} {m : MethodId} {below : List Frame} {meth : Method} {c : Code} (l : Launch) {b : Nat} {xs : Nat → Int32} {dC : Nat → ClassId} {dI : Nat → Nat → Nat} (C0 : lw_At p s m meth c b 6 xs) {x0 tp nw dr rd sc sk fl ps sh nm nb dm db ss m0 mnw mhd mas mps msf mdt mhdd masd mpsd msfd mkp mtp mld mmd men mil mqu mbx : Nat} {kB kF kG kI kI2 kI3 kI4 kI5 kJ kJ2 kJ3 kJ4 kJ5 kZ kY : ClassId} {H : Heap} {locs : List Loc} {ls : Array Slot} (hK : va_K (dC, dI) vwCl [(kB, .byte), (kF, .object RX1), (kG, .object RX1), (kI, .int), (kI2, .int), (kI3, .int), (kI4, .int), (kI5, .int), (kJ, .long), (kJ2, .long), (kJ3, .long), (kJ4, .long), (kJ5, .long), (kZ, .boolean), (kY, .byte)] s) (hP : va_P (dC, dI) vwCl [(x0, .inr (6, [.ref tp, .int 0, .ref nw, .ref dr, .ref rd, .ref sc, .ref sk, .ref fl, .ref ps, .int 0, .int 0, .ref sh])), (tp, .inl (kB, 400, .inl (fun _ => 0))), (nw, .inr (1, [.ref nm, .ref nb, .int 0, .int 0, .int 0])), (dr, .inr (1, [.ref dm, .ref db, .int 0, .int 0, .int 0])), (rd, .inr (4, [.ref tp, .int 0, .int 0, .int 0, .int 0, .int 0])), (sc, .inr (5, [.ref nw, .ref ss, .int 0, .int (-1), .int 0, .int 0, .int 0, .int 0, .int 0])), (ps, .inl (kF, 10, .inr (.inr (.inr (.inr (fun _ => none)))))), (sh, .inl (kG, 2, .inr (.inr (.inr (.inr (fun _ => none)))))), (m0, .inr (7, [.ref mnw, .ref mhd, .ref mas, .ref mps, .ref msf, .ref mdt, .ref mhdd, .ref masd, .ref mpsd, .ref msfd, .ref mkp, .int 0, .ref mtp, .int 0, .int 0, .int 0, .int 0, .ref mld, .int 0, .ref mmd, .ref men, .ref mil, .ref mqu, .int 0, .int 0, .ref mbx])), (mnw, .inl (kI, 99, .inl (fun _ => 0))), (mhd, .inl (kI2, 99, .inl (fun _ => 0))), (mas, .inl (kI3, 99, .inl (fun _ => 0))), (mps, .inl (kI4, 990, .inl (fun _ => 0))), (msf, .inl (kI5, 198, .inl (fun _ => 0))), (mdt, .inl (kJ, 640, .inr (.inl (fun _ => 0)))), (mhdd, .inl (kJ2, 640, .inr (.inl (fun _ => 0)))), (masd, .inl (kJ3, 640, .inr (.inl (fun _ => 0)))), (mpsd, .inl (kJ4, 6400, .inr (.inl (fun _ => 0)))), (msfd, .inl (kJ5, 1280, .inr (.inl (fun _ => 0)))), (mkp, .inl (kZ, 2, .inl (fun _ => 0))), (mtp, .inl (kY, 400, .inl (fun _ => 0)))] H) (hD : va_D (fun q : Nat => s.heap.size ≤ q) [(x0, .inr (6, [.ref tp, .int 0, .ref nw, .ref dr, .ref rd, .ref sc, .ref sk, .ref fl, .ref ps, .int 0, .int 0, .ref sh])), (tp, .inl (kB, 400, .inl (fun _ => 0))), (nw, .inr (1, [.ref nm, .ref nb, .int 0, .int 0, .int 0])), (dr, .inr (1, [.ref dm, .ref db, .int 0, .int 0, .int 0])), (rd, .inr (4, [.ref tp, .int 0, .int 0, .int 0, .int 0, .int 0])), (sc, .inr (5, [.ref nw, .ref ss, .int 0, .int (-1), .int 0, .int 0, .int 0, .int 0, .int 0])), (ps, .inl (kF, 10, .inr (.inr (.inr (.inr (fun _ => none)))))), (sh, .inl (kG, 2, .inr (.inr (.inr (.inr (fun _ => none)))))), (m0, .inr (7, [.ref mnw, .ref mhd, .ref mas, .ref mps, .ref msf, .ref mdt, .ref mhdd, .ref masd, .ref mpsd, .ref msfd, .ref mkp, .int 0, .ref mtp, .int 0, .int 0, .int 0, .int 0, .ref mld, .int 0, .ref mmd, .ref men, .ref mil, .ref mqu, .int 0, .int 0, .ref mbx])), (mnw, .inl (kI, 99, .inl (fun _ => 0))), (mhd, .inl (kI2, 99, .inl (fun _ => 0))), (mas, .inl (kI3, 99, .inl (fun _ => 0))), (mps, .inl (kI4, 990, .inl (fun _ => 0))), (msf, .inl (kI5, 198, .inl (fun _ => 0))), (mdt, .inl (kJ, 640, .inr (.inl (fun _ => 0)))), (mhdd, .inl (kJ2, 640, .inr (.inl (fun _ => 0)))), (masd, .inl (kJ3, 640, .inr (.inl (fun _ => 0)))), (mpsd, .inl (kJ4, 6400, .inr (.inl (fun _ => 0)))), (msfd, .inl (kJ5, 1280, .inr (.inl (fun _ => 0)))), (mkp, .inl (kZ, 2, .inl (fun _ => 0))), (mtp, .inl (kY, 400, .inl (fun _ => 0)))]) (hS : va_S (fun q : Nat => s.heap.size ≤ q) s.heap H locs) (hl : lv_has ls 4 [(3, .int 0), (2, .ref m0), (1, .ref x0), (0, .ref b)]) : W p l e room_1 s m #[Value.ref b] below meth c H locs 110 27528 (lw_Z below #[Value.ref b] s) (F0 m 1884 ls []) := by
  obtain ⟨hx, hb, hr, hml, hown, htl, hX, hbl, hlocks, hgv⟩ := id C0
  have hb : c.code = cL_law := hb
  have hown : s.vm.findClass RL = some m.cls := hown
  have hts : ∀ w ∈ pw, w.before #[Value.ref b] s = true := fun w h => htl w (pw_tbl h)
  have hN : xN s := xN_of htl
  have hA : ∀ q : Nat, s.heap.size ≤ q → (fun q : Nat => s.heap.size ≤ q) q := fun _ h => h
  have hbA : ¬ (fun q : Nat => s.heap.size ≤ q) b := Nat.not_le.mpr hbl
  refine lv_aload_n hx hb dL_law_1884 rfl (lv_at hl 2 rfl) ?_
  refine lv_aload_n hx hb dL_law_1885 rfl (lv_at hl 3 rfl) ?_
  refine lv_iload_n hx hb dL_law_1886 rfl (lv_at hl 0 rfl) ?_
  refine lv_iconst (v := 1) hx hb dL_law_1887 (by decide +kernel) ?_
  refine lv_iadd hx hb dL_law_1888 ?_
  refine lv_topi (fun z1 ez1 => ?_)
  obtain rfl : z1 = 1 := ez1.trans (by decide +kernel)
  refine va_sld hx hb hX hbl hbA hS (in_d (by decide +kernel)) dL_law_1889 ?_
  refine lv_aload_n hx hb dL_law_1890 rfl (lv_at hl 3 rfl) ?_
  refine lv_iload_n hx hb dL_law_1891 rfl (lv_at hl 0 rfl) ?_
  refine lv_iconst (v := 2) hx hb dL_law_1892 (by decide +kernel) ?_
  refine lv_iadd hx hb dL_law_1893 ?_
  refine lv_topi (fun z2 ez2 => ?_)
  obtain rfl : z2 = 2 := ez2.trans (by decide +kernel)
  refine va_sld hx hb hX hbl hbA hS (in_d (by decide +kernel)) dL_law_1894 ?_
  refine lv_aload_n hx hb dL_law_1895 rfl (lv_at hl 3 rfl) ?_
  refine lv_iload_n hx hb dL_law_1896 rfl (lv_at hl 0 rfl) ?_
  refine lv_iconst (v := 3) hx hb dL_law_1897 (by decide +kernel) ?_
  refine lv_iadd hx hb dL_law_1898 ?_
  refine lv_topi (fun z3 ez3 => ?_)
  obtain rfl : z3 = 3 := ez3.trans (by decide +kernel)
  refine va_sld hx hb hX hbl hbA hS (in_d (by decide +kernel)) dL_law_1899 ?_
  have hPc := hP.sub (ws' := [(x0, .inr (6, [.ref tp, .int 0, .ref nw, .ref dr, .ref rd, .ref sc, .ref sk, .ref fl, .ref ps, .int 0, .int 0, .ref sh])), (nw, .inr (1, [.ref nm, .ref nb, .int 0, .int 0, .int 0]))]) [0, 2] rfl
  have hDc := hD.sub (ws' := [(x0, .inr (6, [.ref tp, .int 0, .ref nw, .ref dr, .ref rd, .ref sc, .ref sk, .ref fl, .ref ps, .int 0, .int 0, .ref sh])), (nw, .inr (1, [.ref nm, .ref nb, .int 0, .int 0, .int 0]))]) [0, 2] (by decide) rfl
  have hKc := hK.sub (tys' := []) [] rfl
  refine ro_i (va_runV (As := [.int (xs (1 : Int32).toNatClampNeg), .int (xs (2 : Int32).toNatClampNeg), .int (xs (3 : Int32).toNatClampNeg)]) (rest := []) ⟨hx, hb, hml, hown, hts⟩ (c_X6_alike l dC dI x0 tp nw dr rd sc sk fl ps sh nm nb H.size (xs (1 : Int32).toNatClampNeg) (xs (2 : Int32).toNatClampNeg) (xs (3 : Int32).toNatClampNeg) ) (cwV 3 hts (gV pq954 pq955 pq956 pq74 pq957) rfl rfl rfl (by decide +kernel) ⟨(Nat.le_of_ble_eq_true rfl), (Nat.le_of_ble_eq_true rfl)⟩) (pc_V hPc hDc hKc hN (va_recv hK hP (ci := 6) (q0 := 0) rfl rfl)) rfl rfl hl.1 rfl (lv_room (Nat.le_of_ble_eq_true rfl)) dL_law_1900 ⟨(Nat.le_of_ble_eq_true rfl), (Nat.le_of_ble_eq_true rfl)⟩) hS hP (fun r4 H locs hr4 hP hS => ?_)
  subst hr4
  refine lv_aload_n hx hb dL_law_1903 rfl (lv_at hl 1 rfl) ?_
  refine lv_aload_n hx hb dL_law_1904 rfl (lv_at hl 3 rfl) ?_
  refine lv_iload_n hx hb dL_law_1905 rfl (lv_at hl 0 rfl) ?_
  refine lv_iconst (v := 1) hx hb dL_law_1906 (by decide +kernel) ?_
  refine lv_iadd hx hb dL_law_1907 ?_
  refine lv_topi (fun z5 ez5 => ?_)
  obtain rfl : z5 = 1 := ez5.trans (by decide +kernel)
  refine va_sld hx hb hX hbl hbA hS (in_d (by decide +kernel)) dL_law_1908 ?_
  refine lv_aload_n hx hb dL_law_1909 rfl (lv_at hl 3 rfl) ?_
  refine lv_iload_n hx hb dL_law_1910 rfl (lv_at hl 0 rfl) ?_
  refine lv_iconst (v := 2) hx hb dL_law_1911 (by decide +kernel) ?_
  refine lv_iadd hx hb dL_law_1912 ?_
  refine lv_topi (fun z6 ez6 => ?_)
  obtain rfl : z6 = 2 := ez6.trans (by decide +kernel)
  refine va_sld hx hb hX hbl hbA hS (in_d (by decide +kernel)) dL_law_1913 ?_
  refine lv_aload_n hx hb dL_law_1914 rfl (lv_at hl 3 rfl) ?_
  refine lv_iload_n hx hb dL_law_1915 rfl (lv_at hl 0 rfl) ?_
  refine lv_iconst (v := 3) hx hb dL_law_1916 (by decide +kernel) ?_
  refine lv_iadd hx hb dL_law_1917 ?_
  refine lv_topi (fun z7 ez7 => ?_)
  obtain rfl : z7 = 3 := ez7.trans (by decide +kernel)
  refine va_sld hx hb hX hbl hbA hS (in_d (by decide +kernel)) dL_law_1918 ?_
  have hPc := hP.sub (ws' := [(m0, .inr (7, [.ref mnw, .ref mhd, .ref mas, .ref mps, .ref msf, .ref mdt, .ref mhdd, .ref masd, .ref mpsd, .ref msfd, .ref mkp, .int 0, .ref mtp, .int 0, .int 0, .int 0, .int 0, .ref mld, .int 0, .ref mmd, .ref men, .ref mil, .ref mqu, .int 0, .int 0, .ref mbx])), (mnw, .inl (kI, 99, .inl (fun _ => 0)))]) [8, 9] rfl
  have hDc := hD.sub (ws' := [(m0, .inr (7, [.ref mnw, .ref mhd, .ref mas, .ref mps, .ref msf, .ref mdt, .ref mhdd, .ref masd, .ref mpsd, .ref msfd, .ref mkp, .int 0, .ref mtp, .int 0, .int 0, .int 0, .int 0, .ref mld, .int 0, .ref mmd, .ref men, .ref mil, .ref mqu, .int 0, .int 0, .ref mbx])), (mnw, .inl (kI, 99, .inl (fun _ => 0)))]) [8, 9] (by decide) rfl
  have hKc := hK.sub (tys' := [(kI, .int)]) [3] rfl
  refine ro_i (va_runV (As := [.int (xs (1 : Int32).toNatClampNeg), .int (xs (2 : Int32).toNatClampNeg), .int (xs (3 : Int32).toNatClampNeg)]) (rest := [.int (-1)]) ⟨hx, hb, hml, hown, hts⟩ (c_X7_alike l dC dI m0 mnw mhd mas mps msf mdt mhdd masd mpsd msfd mkp mtp mld mmd men mil mqu mbx kI H.size (xs (1 : Int32).toNatClampNeg) (xs (2 : Int32).toNatClampNeg) (xs (3 : Int32).toNatClampNeg) ) (cwV 3 hts (gV pq1720 pq1721 pq1722 pq81 pq1723) rfl rfl rfl (by decide +kernel) ⟨(Nat.le_of_ble_eq_true rfl), (Nat.le_of_ble_eq_true rfl)⟩) (pc_V hPc hDc hKc hN (va_recv hK hP (ci := 7) (q0 := 8) rfl rfl)) rfl rfl hl.1 rfl (lv_room (Nat.le_of_ble_eq_true rfl)) dL_law_1919 ⟨(Nat.le_of_ble_eq_true rfl), (Nat.le_of_ble_eq_true rfl)⟩) hS hP (fun r8 H locs hr8 hP hS => ?_)
  subst hr8
  refine lv_icmp_eq (tgt := 1950) hx hb dL_law_1922 (by decide) (fun c9 => ?_) (fun c9 => absurd (by decide +kernel) c9)
  refine lv_iinc (v := 6) (lv' := [(3, .int 6), (2, .ref m0), (1, .ref x0), (0, .ref b)]) hx hb dL_law_1950 hl (k := 0) rfl (by decide +kernel) (by decide) rfl (fun ls hl => ?_)
  refine lv_goto (tgt := 18) hx hb dL_law_1953 (by decide) ?_
  refine lv_iload_n hx hb dL_law_18 rfl (lv_at hl 0 rfl) ?_
  refine lv_aload_n hx hb dL_law_19 rfl (lv_at hl 3 rfl) ?_
  refine va_slen hx hb hX hbl hbA hS dL_law_20 ?_
  refine lv_bipush (v := 6) hx hb dL_law_21 (by decide +kernel) ?_
  refine lv_isub hx hb dL_law_23 ?_
  refine lv_topi (fun z10 ez10 => ?_)
  obtain rfl : z10 = 0 := ez10.trans (by decide +kernel)
  refine lv_icmp_gt (tgt := 1956) hx hb dL_law_24 (by decide) (fun c11 => ?_) (fun c11 => absurd (by decide +kernel) c11)
  refine lv_iconst (v := 1) hx hb dL_law_1956 (by decide +kernel) ?_
  refine va_forget (fun q hq => hS.2.2 q hq) ?_
  refine W.widen (k := 600000) (n := 7302249) (Nat.le_of_ble_eq_true rfl) (Nat.le_of_ble_eq_true rfl) ?_
  refine W.base ?_
  exact lw_ret (Drawn.sameBut.refl s.drawn lw_cs) hx hb hr hlocks dL_law_1957

set_option maxHeartbeats 4000000 in
set_option maxRecDepth 100000 in
theorem lw_case48 {p : Program} {e : Env} {s : State} {m : MethodId} {below : List Frame} {meth : Method} {c : Code} (l : Launch) {b : Nat} {xs : Nat → Int32} {dC : Nat → ClassId} {dI : Nat → Nat → Nat} (C0 : lw_At p s m meth c b 6 xs) {x0 tp nw dr rd sc sk fl ps sh nm nb dm db ss m0 mnw mhd mas mps msf mdt mhdd masd mpsd msfd mkp mtp mld mmd men mil mqu mbx : Nat} {kB kF kG kI kI2 kI3 kI4 kI5 kJ kJ2 kJ3 kJ4 kJ5 kZ kY : ClassId} {H : Heap} {locs : List Loc} {ls : Array Slot} (hK : va_K (dC, dI) vwCl [(kB, .byte), (kF, .object RX1), (kG, .object RX1), (kI, .int), (kI2, .int), (kI3, .int), (kI4, .int), (kI5, .int), (kJ, .long), (kJ2, .long), (kJ3, .long), (kJ4, .long), (kJ5, .long), (kZ, .boolean), (kY, .byte)] s) (hP : va_P (dC, dI) vwCl [(x0, .inr (6, [.ref tp, .int 0, .ref nw, .ref dr, .ref rd, .ref sc, .ref sk, .ref fl, .ref ps, .int 0, .int 0, .ref sh])), (tp, .inl (kB, 400, .inl (fun _ => 0))), (nw, .inr (1, [.ref nm, .ref nb, .int 0, .int 0, .int 0])), (dr, .inr (1, [.ref dm, .ref db, .int 0, .int 0, .int 0])), (rd, .inr (4, [.ref tp, .int 0, .int 0, .int 0, .int 0, .int 0])), (sc, .inr (5, [.ref nw, .ref ss, .int 0, .int (-1), .int 0, .int 0, .int 0, .int 0, .int 0])), (ps, .inl (kF, 10, .inr (.inr (.inr (.inr (fun _ => none)))))), (sh, .inl (kG, 2, .inr (.inr (.inr (.inr (fun _ => none)))))), (m0, .inr (7, [.ref mnw, .ref mhd, .ref mas, .ref mps, .ref msf, .ref mdt, .ref mhdd, .ref masd, .ref mpsd, .ref msfd, .ref mkp, .int 0, .ref mtp, .int 0, .int 0, .int 0, .int 0, .ref mld, .int 0, .ref mmd, .ref men, .ref mil, .ref mqu, .int 0, .int 0, .ref mbx])), (mnw, .inl (kI, 99, .inl (fun _ => 0))), (mhd, .inl (kI2, 99, .inl (fun _ => 0))), (mas, .inl (kI3, 99, .inl (fun _ => 0))), (mps, .inl (kI4, 990, .inl (fun _ => 0))), (msf, .inl (kI5, 198, .inl (fun _ => 0))), (mdt, .inl (kJ, 640, .inr (.inl (fun _ => 0)))), (mhdd, .inl (kJ2, 640, .inr (.inl (fun _ => 0)))), (masd, .inl (kJ3, 640, .inr (.inl (fun _ => 0)))), (mpsd, .inl (kJ4, 6400, .inr (.inl (fun _ => 0)))), (msfd, .inl (kJ5, 1280, .inr (.inl (fun _ => 0)))), (mkp, .inl (kZ, 2, .inl (fun _ => 0))), (mtp, .inl (kY, 400, .inl (fun _ => 0)))] H) (hD : va_D (fun q : Nat => s.heap.size ≤ q) [(x0, .inr (6, [.ref tp, .int 0, .ref nw, .ref dr, .ref rd, .ref sc, .ref sk, .ref fl, .ref ps, .int 0, .int 0, .ref sh])), (tp, .inl (kB, 400, .inl (fun _ => 0))), (nw, .inr (1, [.ref nm, .ref nb, .int 0, .int 0, .int 0])), (dr, .inr (1, [.ref dm, .ref db, .int 0, .int 0, .int 0])), (rd, .inr (4, [.ref tp, .int 0, .int 0, .int 0, .int 0, .int 0])), (sc, .inr (5, [.ref nw, .ref ss, .int 0, .int (-1), .int 0, .int 0, .int 0, .int 0, .int 0])), (ps, .inl (kF, 10, .inr (.inr (.inr (.inr (fun _ => none)))))), (sh, .inl (kG, 2, .inr (.inr (.inr (.inr (fun _ => none)))))), (m0, .inr (7, [.ref mnw, .ref mhd, .ref mas, .ref mps, .ref msf, .ref mdt, .ref mhdd, .ref masd, .ref mpsd, .ref msfd, .ref mkp, .int 0, .ref mtp, .int 0, .int 0, .int 0, .int 0, .ref mld, .int 0, .ref mmd, .ref men, .ref mil, .ref mqu, .int 0, .int 0, .ref mbx])), (mnw, .inl (kI, 99, .inl (fun _ => 0))), (mhd, .inl (kI2, 99, .inl (fun _ => 0))), (mas, .inl (kI3, 99, .inl (fun _ => 0))), (mps, .inl (kI4, 990, .inl (fun _ => 0))), (msf, .inl (kI5, 198, .inl (fun _ => 0))), (mdt, .inl (kJ, 640, .inr (.inl (fun _ => 0)))), (mhdd, .inl (kJ2, 640, .inr (.inl (fun _ => 0)))), (masd, .inl (kJ3, 640, .inr (.inl (fun _ => 0)))), (mpsd, .inl (kJ4, 6400, .inr (.inl (fun _ => 0)))), (msfd, .inl (kJ5, 1280, .inr (.inl (fun _ => 0)))), (mkp, .inl (kZ, 2, .inl (fun _ => 0))), (mtp, .inl (kY, 400, .inl (fun _ => 0)))]) (hS : va_S (fun q : Nat => s.heap.size ≤ q) s.heap H locs) (hl : lv_has ls 4 [(3, .int 0), (2, .ref m0), (1, .ref x0), (0, .ref b)]) : W p l e room_1 s m #[Value.ref b] below meth c H locs 110 27528 (lw_Z below #[Value.ref b] s) (F0 m 1927 ls []) := by
  obtain ⟨hx, hb, hr, hml, hown, htl, hX, hbl, hlocks, hgv⟩ := id C0
  have hb : c.code = cL_law := hb
  have hown : s.vm.findClass RL = some m.cls := hown
  have hts : ∀ w ∈ pw, w.before #[Value.ref b] s = true := fun w h => htl w (pw_tbl h)
  have hN : xN s := xN_of htl
  have hA : ∀ q : Nat, s.heap.size ≤ q → (fun q : Nat => s.heap.size ≤ q) q := fun _ h => h
  have hbA : ¬ (fun q : Nat => s.heap.size ≤ q) b := Nat.not_le.mpr hbl
  refine lv_aload_n hx hb dL_law_1927 rfl (lv_at hl 2 rfl) ?_
  refine lv_aload_n hx hb dL_law_1928 rfl (lv_at hl 3 rfl) ?_
  refine lv_iload_n hx hb dL_law_1929 rfl (lv_at hl 0 rfl) ?_
  refine lv_iconst (v := 1) hx hb dL_law_1930 (by decide +kernel) ?_
  refine lv_iadd hx hb dL_law_1931 ?_
  refine lv_topi (fun z1 ez1 => ?_)
  obtain rfl : z1 = 1 := ez1.trans (by decide +kernel)
  refine va_sld hx hb hX hbl hbA hS (in_d (by decide +kernel)) dL_law_1932 ?_
  have hPc := hP.sub (ws' := [(x0, .inr (6, [.ref tp, .int 0, .ref nw, .ref dr, .ref rd, .ref sc, .ref sk, .ref fl, .ref ps, .int 0, .int 0, .ref sh])), (nw, .inr (1, [.ref nm, .ref nb, .int 0, .int 0, .int 0])), (sh, .inl (kG, 2, .inr (.inr (.inr (.inr (fun _ => none))))))]) [0, 2, 7] rfl
  have hDc := hD.sub (ws' := [(x0, .inr (6, [.ref tp, .int 0, .ref nw, .ref dr, .ref rd, .ref sc, .ref sk, .ref fl, .ref ps, .int 0, .int 0, .ref sh])), (nw, .inr (1, [.ref nm, .ref nb, .int 0, .int 0, .int 0])), (sh, .inl (kG, 2, .inr (.inr (.inr (.inr (fun _ => none))))))]) [0, 2, 7] (by decide) rfl
  have hKc := hK.sub (tys' := [(kG, .object RX1)]) [2] rfl
  refine ro_i (va_runV (As := [.int (xs (1 : Int32).toNatClampNeg)]) (rest := []) ⟨hx, hb, hml, hown, hts⟩ (c_X6_count l dC dI x0 tp nw dr rd sc sk fl ps sh nm nb kG H.size (xs (1 : Int32).toNatClampNeg) ) (cwV 1 hts (gV pq1101 pq1102 pq1103 pq74 pq1104) rfl rfl rfl (by decide +kernel) ⟨(Nat.le_of_ble_eq_true rfl), (Nat.le_of_ble_eq_true rfl)⟩) (pc_V hPc hDc hKc hN (va_recv hK hP (ci := 6) (q0 := 0) rfl rfl)) rfl rfl hl.1 rfl (lv_room (Nat.le_of_ble_eq_true rfl)) dL_law_1933 ⟨(Nat.le_of_ble_eq_true rfl), (Nat.le_of_ble_eq_true rfl)⟩) hS hP (fun r2 H locs hr2 hP hS => ?_)
  refine lv_aload_n hx hb dL_law_1936 rfl (lv_at hl 1 rfl) ?_
  refine lv_aload_n hx hb dL_law_1937 rfl (lv_at hl 3 rfl) ?_
  refine lv_iload_n hx hb dL_law_1938 rfl (lv_at hl 0 rfl) ?_
  refine lv_iconst (v := 1) hx hb dL_law_1939 (by decide +kernel) ?_
  refine lv_iadd hx hb dL_law_1940 ?_
  refine lv_topi (fun z3 ez3 => ?_)
  obtain rfl : z3 = 1 := ez3.trans (by decide +kernel)
  refine va_sld hx hb hX hbl hbA hS (in_d (by decide +kernel)) dL_law_1941 ?_
  have hPc := hP.sub (ws' := [(m0, .inr (7, [.ref mnw, .ref mhd, .ref mas, .ref mps, .ref msf, .ref mdt, .ref mhdd, .ref masd, .ref mpsd, .ref msfd, .ref mkp, .int 0, .ref mtp, .int 0, .int 0, .int 0, .int 0, .ref mld, .int 0, .ref mmd, .ref men, .ref mil, .ref mqu, .int 0, .int 0, .ref mbx])), (mnw, .inl (kI, 99, .inl (fun _ => 0))), (mkp, .inl (kZ, 2, .inl (fun _ => 0)))]) [8, 9, 19] rfl
  have hDc := hD.sub (ws' := [(m0, .inr (7, [.ref mnw, .ref mhd, .ref mas, .ref mps, .ref msf, .ref mdt, .ref mhdd, .ref masd, .ref mpsd, .ref msfd, .ref mkp, .int 0, .ref mtp, .int 0, .int 0, .int 0, .int 0, .ref mld, .int 0, .ref mmd, .ref men, .ref mil, .ref mqu, .int 0, .int 0, .ref mbx])), (mnw, .inl (kI, 99, .inl (fun _ => 0))), (mkp, .inl (kZ, 2, .inl (fun _ => 0)))]) [8, 9, 19] (by decide) rfl
  have hKc := hK.sub (tys' := [(kI, .int), (kZ, .boolean)]) [3, 13] rfl
  refine ro_i (va_runV (As := [.int (xs (1 : Int32).toNatClampNeg)]) (rest := [.int r2]) ⟨hx, hb, hml, hown, hts⟩ (c_X7_count l dC dI m0 mnw mhd mas mps msf mdt mhdd masd mpsd msfd mkp mtp mld mmd men mil mqu mbx kI kZ H.size (xs (1 : Int32).toNatClampNeg) ) (cwV 1 hts (gV pq1724 pq1725 pq1726 pq81 pq1727) rfl rfl rfl (by decide +kernel) ⟨(Nat.le_of_ble_eq_true rfl), (Nat.le_of_ble_eq_true rfl)⟩) (pc_V hPc hDc hKc hN (va_recv hK hP (ci := 7) (q0 := 8) rfl rfl)) rfl rfl hl.1 rfl (lv_room (Nat.le_of_ble_eq_true rfl)) dL_law_1942 ⟨(Nat.le_of_ble_eq_true rfl), (Nat.le_of_ble_eq_true rfl)⟩) hS hP (fun r4 H locs hr4 hP hS => ?_)
  refine lv_icmp_eq (tgt := 1950) hx hb dL_law_1945 (by decide) (fun c5 => ?_) (fun c5 => absurd (hr2.trans hr4.symm) c5)
  refine lv_iinc (v := 6) (lv' := [(3, .int 6), (2, .ref m0), (1, .ref x0), (0, .ref b)]) hx hb dL_law_1950 hl (k := 0) rfl (by decide +kernel) (by decide) rfl (fun ls hl => ?_)
  refine lv_goto (tgt := 18) hx hb dL_law_1953 (by decide) ?_
  refine lv_iload_n hx hb dL_law_18 rfl (lv_at hl 0 rfl) ?_
  refine lv_aload_n hx hb dL_law_19 rfl (lv_at hl 3 rfl) ?_
  refine va_slen hx hb hX hbl hbA hS dL_law_20 ?_
  refine lv_bipush (v := 6) hx hb dL_law_21 (by decide +kernel) ?_
  refine lv_isub hx hb dL_law_23 ?_
  refine lv_topi (fun z6 ez6 => ?_)
  obtain rfl : z6 = 0 := ez6.trans (by decide +kernel)
  refine lv_icmp_gt (tgt := 1956) hx hb dL_law_24 (by decide) (fun c7 => ?_) (fun c7 => absurd (by decide +kernel) c7)
  refine lv_iconst (v := 1) hx hb dL_law_1956 (by decide +kernel) ?_
  refine va_forget (fun q hq => hS.2.2 q hq) ?_
  refine W.widen (k := 600000) (n := 7302249) (Nat.le_of_ble_eq_true rfl) (Nat.le_of_ble_eq_true rfl) ?_
  refine W.base ?_
  exact lw_ret (Drawn.sameBut.refl s.drawn lw_cs) hx hb hr hlocks dL_law_1957

set_option maxHeartbeats 4000000 in
set_option maxRecDepth 100000 in
theorem lw_cased {p : Program} {e : Env} {s : State} {m : MethodId} {below : List Frame} {meth : Method} {c : Code} (l : Launch) {b : Nat} {xs : Nat → Int32} {dC : Nat → ClassId} {dI : Nat → Nat → Nat} (C0 : lw_At p s m meth c b 6 xs) {x0 tp nw dr rd sc sk fl ps sh nm nb dm db ss m0 mnw mhd mas mps msf mdt mhdd masd mpsd msfd mkp mtp mld mmd men mil mqu mbx : Nat} {kB kF kG kI kI2 kI3 kI4 kI5 kJ kJ2 kJ3 kJ4 kJ5 kZ kY : ClassId} {H : Heap} {locs : List Loc} {ls : Array Slot} (hK : va_K (dC, dI) vwCl [(kB, .byte), (kF, .object RX1), (kG, .object RX1), (kI, .int), (kI2, .int), (kI3, .int), (kI4, .int), (kI5, .int), (kJ, .long), (kJ2, .long), (kJ3, .long), (kJ4, .long), (kJ5, .long), (kZ, .boolean), (kY, .byte)] s) (hP : va_P (dC, dI) vwCl [(x0, .inr (6, [.ref tp, .int 0, .ref nw, .ref dr, .ref rd, .ref sc, .ref sk, .ref fl, .ref ps, .int 0, .int 0, .ref sh])), (tp, .inl (kB, 400, .inl (fun _ => 0))), (nw, .inr (1, [.ref nm, .ref nb, .int 0, .int 0, .int 0])), (dr, .inr (1, [.ref dm, .ref db, .int 0, .int 0, .int 0])), (rd, .inr (4, [.ref tp, .int 0, .int 0, .int 0, .int 0, .int 0])), (sc, .inr (5, [.ref nw, .ref ss, .int 0, .int (-1), .int 0, .int 0, .int 0, .int 0, .int 0])), (ps, .inl (kF, 10, .inr (.inr (.inr (.inr (fun _ => none)))))), (sh, .inl (kG, 2, .inr (.inr (.inr (.inr (fun _ => none)))))), (m0, .inr (7, [.ref mnw, .ref mhd, .ref mas, .ref mps, .ref msf, .ref mdt, .ref mhdd, .ref masd, .ref mpsd, .ref msfd, .ref mkp, .int 0, .ref mtp, .int 0, .int 0, .int 0, .int 0, .ref mld, .int 0, .ref mmd, .ref men, .ref mil, .ref mqu, .int 0, .int 0, .ref mbx])), (mnw, .inl (kI, 99, .inl (fun _ => 0))), (mhd, .inl (kI2, 99, .inl (fun _ => 0))), (mas, .inl (kI3, 99, .inl (fun _ => 0))), (mps, .inl (kI4, 990, .inl (fun _ => 0))), (msf, .inl (kI5, 198, .inl (fun _ => 0))), (mdt, .inl (kJ, 640, .inr (.inl (fun _ => 0)))), (mhdd, .inl (kJ2, 640, .inr (.inl (fun _ => 0)))), (masd, .inl (kJ3, 640, .inr (.inl (fun _ => 0)))), (mpsd, .inl (kJ4, 6400, .inr (.inl (fun _ => 0)))), (msfd, .inl (kJ5, 1280, .inr (.inl (fun _ => 0)))), (mkp, .inl (kZ, 2, .inl (fun _ => 0))), (mtp, .inl (kY, 400, .inl (fun _ => 0)))] H) (hD : va_D (fun q : Nat => s.heap.size ≤ q) [(x0, .inr (6, [.ref tp, .int 0, .ref nw, .ref dr, .ref rd, .ref sc, .ref sk, .ref fl, .ref ps, .int 0, .int 0, .ref sh])), (tp, .inl (kB, 400, .inl (fun _ => 0))), (nw, .inr (1, [.ref nm, .ref nb, .int 0, .int 0, .int 0])), (dr, .inr (1, [.ref dm, .ref db, .int 0, .int 0, .int 0])), (rd, .inr (4, [.ref tp, .int 0, .int 0, .int 0, .int 0, .int 0])), (sc, .inr (5, [.ref nw, .ref ss, .int 0, .int (-1), .int 0, .int 0, .int 0, .int 0, .int 0])), (ps, .inl (kF, 10, .inr (.inr (.inr (.inr (fun _ => none)))))), (sh, .inl (kG, 2, .inr (.inr (.inr (.inr (fun _ => none)))))), (m0, .inr (7, [.ref mnw, .ref mhd, .ref mas, .ref mps, .ref msf, .ref mdt, .ref mhdd, .ref masd, .ref mpsd, .ref msfd, .ref mkp, .int 0, .ref mtp, .int 0, .int 0, .int 0, .int 0, .ref mld, .int 0, .ref mmd, .ref men, .ref mil, .ref mqu, .int 0, .int 0, .ref mbx])), (mnw, .inl (kI, 99, .inl (fun _ => 0))), (mhd, .inl (kI2, 99, .inl (fun _ => 0))), (mas, .inl (kI3, 99, .inl (fun _ => 0))), (mps, .inl (kI4, 990, .inl (fun _ => 0))), (msf, .inl (kI5, 198, .inl (fun _ => 0))), (mdt, .inl (kJ, 640, .inr (.inl (fun _ => 0)))), (mhdd, .inl (kJ2, 640, .inr (.inl (fun _ => 0)))), (masd, .inl (kJ3, 640, .inr (.inl (fun _ => 0)))), (mpsd, .inl (kJ4, 6400, .inr (.inl (fun _ => 0)))), (msfd, .inl (kJ5, 1280, .inr (.inl (fun _ => 0)))), (mkp, .inl (kZ, 2, .inl (fun _ => 0))), (mtp, .inl (kY, 400, .inl (fun _ => 0)))]) (hS : va_S (fun q : Nat => s.heap.size ≤ q) s.heap H locs) (hl : lv_has ls 4 [(3, .int 0), (2, .ref m0), (1, .ref x0), (0, .ref b)]) : W p l e room_1 s m #[Value.ref b] below meth c H locs 110 27528 (lw_Z below #[Value.ref b] s) (F0 m 1950 ls []) := by
  obtain ⟨hx, hb, hr, hml, hown, htl, hX, hbl, hlocks, hgv⟩ := id C0
  have hb : c.code = cL_law := hb
  have hown : s.vm.findClass RL = some m.cls := hown
  have hts : ∀ w ∈ pw, w.before #[Value.ref b] s = true := fun w h => htl w (pw_tbl h)
  have hN : xN s := xN_of htl
  have hA : ∀ q : Nat, s.heap.size ≤ q → (fun q : Nat => s.heap.size ≤ q) q := fun _ h => h
  have hbA : ¬ (fun q : Nat => s.heap.size ≤ q) b := Nat.not_le.mpr hbl
  refine lv_iinc (v := 6) (lv' := [(3, .int 6), (2, .ref m0), (1, .ref x0), (0, .ref b)]) hx hb dL_law_1950 hl (k := 0) rfl (by decide +kernel) (by decide) rfl (fun ls hl => ?_)
  refine lv_goto (tgt := 18) hx hb dL_law_1953 (by decide) ?_
  refine lv_iload_n hx hb dL_law_18 rfl (lv_at hl 0 rfl) ?_
  refine lv_aload_n hx hb dL_law_19 rfl (lv_at hl 3 rfl) ?_
  refine va_slen hx hb hX hbl hbA hS dL_law_20 ?_
  refine lv_bipush (v := 6) hx hb dL_law_21 (by decide +kernel) ?_
  refine lv_isub hx hb dL_law_23 ?_
  refine lv_topi (fun z1 ez1 => ?_)
  obtain rfl : z1 = 0 := ez1.trans (by decide +kernel)
  refine lv_icmp_gt (tgt := 1956) hx hb dL_law_24 (by decide) (fun c2 => ?_) (fun c2 => absurd (by decide +kernel) c2)
  refine lv_iconst (v := 1) hx hb dL_law_1956 (by decide +kernel) ?_
  refine va_forget (fun q hq => hS.2.2 q hq) ?_
  refine W.widen (k := 600000) (n := 7302249) (Nat.le_of_ble_eq_true rfl) (Nat.le_of_ble_eq_true rfl) ?_
  refine W.base ?_
  exact lw_ret (Drawn.sameBut.refl s.drawn lw_cs) hx hb hr hlocks dL_law_1957
