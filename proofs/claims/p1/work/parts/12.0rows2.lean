theorem dL_law_1326 : decode code 1326 = .ok (.iconst 1, 1) := by decide +kernel
theorem dL_law_1327 : decode code 1327 = .ok (.iadd, 1) := by decide +kernel
theorem dL_law_1328 : decode code 1328 = .ok (.iaload, 1) := by decide +kernel
theorem dL_law_1329 : decode code 1329 = .ok (.invokevirtual 189, 3) := by decide +kernel
theorem dL_law_1332 : decode code 1332 = .ok (.aload_n 2, 1) := by decide +kernel
theorem dL_law_1333 : decode code 1333 = .ok (.aload_n 0, 1) := by decide +kernel
theorem dL_law_1334 : decode code 1334 = .ok (.iload_n 3, 1) := by decide +kernel
theorem dL_law_1335 : decode code 1335 = .ok (.iconst 1, 1) := by decide +kernel
theorem dL_law_1336 : decode code 1336 = .ok (.iadd, 1) := by decide +kernel
theorem dL_law_1337 : decode code 1337 = .ok (.iaload, 1) := by decide +kernel
theorem dL_law_1338 : decode code 1338 = .ok (.invokevirtual 192, 3) := by decide +kernel
theorem dL_law_1341 : decode code 1341 = .ok (.if_icmp .eq 665, 3) := by decide +kernel
theorem dL_law_1346 : decode code 1346 = .ok (.aload_n 1, 1) := by decide +kernel
theorem dL_law_1347 : decode code 1347 = .ok (.aload_n 0, 1) := by decide +kernel
theorem dL_law_1348 : decode code 1348 = .ok (.iload_n 3, 1) := by decide +kernel
theorem dL_law_1349 : decode code 1349 = .ok (.iconst 1, 1) := by decide +kernel
theorem dL_law_1350 : decode code 1350 = .ok (.iadd, 1) := by decide +kernel
theorem dL_law_1351 : decode code 1351 = .ok (.iaload, 1) := by decide +kernel
theorem dL_law_1352 : decode code 1352 = .ok (.aload_n 0, 1) := by decide +kernel
theorem dL_law_1353 : decode code 1353 = .ok (.iload_n 3, 1) := by decide +kernel
theorem dL_law_1354 : decode code 1354 = .ok (.iconst 2, 1) := by decide +kernel
theorem dL_law_1355 : decode code 1355 = .ok (.iadd, 1) := by decide +kernel
theorem dL_law_1356 : decode code 1356 = .ok (.iaload, 1) := by decide +kernel
theorem dL_law_1357 : decode code 1357 = .ok (.invokevirtual 193, 3) := by decide +kernel
theorem dL_law_1360 : decode code 1360 = .ok (.aload_n 2, 1) := by decide +kernel
theorem dL_law_1361 : decode code 1361 = .ok (.aload_n 0, 1) := by decide +kernel
theorem dL_law_1362 : decode code 1362 = .ok (.iload_n 3, 1) := by decide +kernel
theorem dL_law_1363 : decode code 1363 = .ok (.iconst 1, 1) := by decide +kernel
theorem dL_law_1364 : decode code 1364 = .ok (.iadd, 1) := by decide +kernel
theorem dL_law_1365 : decode code 1365 = .ok (.iaload, 1) := by decide +kernel
theorem dL_law_1366 : decode code 1366 = .ok (.aload_n 0, 1) := by decide +kernel
theorem dL_law_1367 : decode code 1367 = .ok (.iload_n 3, 1) := by decide +kernel
theorem dL_law_1368 : decode code 1368 = .ok (.iconst 2, 1) := by decide +kernel
theorem dL_law_1369 : decode code 1369 = .ok (.iadd, 1) := by decide +kernel
theorem dL_law_1370 : decode code 1370 = .ok (.iaload, 1) := by decide +kernel
theorem dL_law_1371 : decode code 1371 = .ok (.invokevirtual 196, 3) := by decide +kernel
theorem dL_law_1374 : decode code 1374 = .ok (.if_icmp .eq 632, 3) := by decide +kernel
theorem dL_law_1379 : decode code 1379 = .ok (.aload_n 1, 1) := by decide +kernel
theorem dL_law_1380 : decode code 1380 = .ok (.invokevirtual 197, 3) := by decide +kernel
theorem dL_law_1383 : decode code 1383 = .ok (.aload_n 2, 1) := by decide +kernel
theorem dL_law_1384 : decode code 1384 = .ok (.invokevirtual 200, 3) := by decide +kernel
theorem dL_law_1387 : decode code 1387 = .ok (.if_icmp .eq 619, 3) := by decide +kernel
theorem dL_law_1392 : decode code 1392 = .ok (.aload_n 1, 1) := by decide +kernel
theorem dL_law_1393 : decode code 1393 = .ok (.aload_n 0, 1) := by decide +kernel
theorem dL_law_1394 : decode code 1394 = .ok (.iload_n 3, 1) := by decide +kernel
theorem dL_law_1395 : decode code 1395 = .ok (.iconst 1, 1) := by decide +kernel
theorem dL_law_1396 : decode code 1396 = .ok (.iadd, 1) := by decide +kernel
theorem dL_law_1397 : decode code 1397 = .ok (.iaload, 1) := by decide +kernel
theorem dL_law_1398 : decode code 1398 = .ok (.invokevirtual 201, 3) := by decide +kernel
theorem dL_law_1401 : decode code 1401 = .ok (.aload_n 2, 1) := by decide +kernel
theorem dL_law_1402 : decode code 1402 = .ok (.aload_n 0, 1) := by decide +kernel
theorem dL_law_1403 : decode code 1403 = .ok (.iload_n 3, 1) := by decide +kernel
theorem dL_law_1404 : decode code 1404 = .ok (.iconst 1, 1) := by decide +kernel
theorem dL_law_1405 : decode code 1405 = .ok (.iadd, 1) := by decide +kernel
theorem dL_law_1406 : decode code 1406 = .ok (.iaload, 1) := by decide +kernel
theorem dL_law_1407 : decode code 1407 = .ok (.invokevirtual 204, 3) := by decide +kernel
theorem dL_law_1410 : decode code 1410 = .ok (.if_icmp .eq 596, 3) := by decide +kernel
theorem dL_law_1415 : decode code 1415 = .ok (.aload_n 1, 1) := by decide +kernel
theorem dL_law_1416 : decode code 1416 = .ok (.aload_n 0, 1) := by decide +kernel
theorem dL_law_1417 : decode code 1417 = .ok (.iload_n 3, 1) := by decide +kernel
theorem dL_law_1418 : decode code 1418 = .ok (.iconst 1, 1) := by decide +kernel
theorem dL_law_1419 : decode code 1419 = .ok (.iadd, 1) := by decide +kernel
theorem dL_law_1420 : decode code 1420 = .ok (.iaload, 1) := by decide +kernel
theorem dL_law_1421 : decode code 1421 = .ok (.aload_n 0, 1) := by decide +kernel
theorem dL_law_1422 : decode code 1422 = .ok (.iload_n 3, 1) := by decide +kernel
theorem dL_law_1423 : decode code 1423 = .ok (.iconst 2, 1) := by decide +kernel
theorem dL_law_1424 : decode code 1424 = .ok (.iadd, 1) := by decide +kernel
theorem dL_law_1425 : decode code 1425 = .ok (.iaload, 1) := by decide +kernel
theorem dL_law_1426 : decode code 1426 = .ok (.invokevirtual 205, 3) := by decide +kernel
theorem dL_law_1429 : decode code 1429 = .ok (.aload_n 2, 1) := by decide +kernel
theorem dL_law_1430 : decode code 1430 = .ok (.aload_n 0, 1) := by decide +kernel
theorem dL_law_1431 : decode code 1431 = .ok (.iload_n 3, 1) := by decide +kernel
theorem dL_law_1432 : decode code 1432 = .ok (.iconst 1, 1) := by decide +kernel
theorem dL_law_1433 : decode code 1433 = .ok (.iadd, 1) := by decide +kernel
theorem dL_law_1434 : decode code 1434 = .ok (.iaload, 1) := by decide +kernel
theorem dL_law_1435 : decode code 1435 = .ok (.aload_n 0, 1) := by decide +kernel
theorem dL_law_1436 : decode code 1436 = .ok (.iload_n 3, 1) := by decide +kernel
theorem dL_law_1437 : decode code 1437 = .ok (.iconst 2, 1) := by decide +kernel
theorem dL_law_1438 : decode code 1438 = .ok (.iadd, 1) := by decide +kernel
theorem dL_law_1439 : decode code 1439 = .ok (.iaload, 1) := by decide +kernel
theorem dL_law_1440 : decode code 1440 = .ok (.invokevirtual 208, 3) := by decide +kernel
theorem dL_law_1443 : decode code 1443 = .ok (.if_icmp .eq 563, 3) := by decide +kernel
theorem dL_law_1448 : decode code 1448 = .ok (.aload_n 1, 1) := by decide +kernel
theorem dL_law_1449 : decode code 1449 = .ok (.aload_n 0, 1) := by decide +kernel
theorem dL_law_1450 : decode code 1450 = .ok (.iload_n 3, 1) := by decide +kernel
theorem dL_law_1451 : decode code 1451 = .ok (.iconst 1, 1) := by decide +kernel
theorem dL_law_1452 : decode code 1452 = .ok (.iadd, 1) := by decide +kernel
theorem dL_law_1453 : decode code 1453 = .ok (.iaload, 1) := by decide +kernel
theorem dL_law_1454 : decode code 1454 = .ok (.invokevirtual 209, 3) := by decide +kernel
theorem dL_law_1457 : decode code 1457 = .ok (.aload_n 2, 1) := by decide +kernel
theorem dL_law_1458 : decode code 1458 = .ok (.aload_n 0, 1) := by decide +kernel
theorem dL_law_1459 : decode code 1459 = .ok (.iload_n 3, 1) := by decide +kernel
theorem dL_law_1460 : decode code 1460 = .ok (.iconst 1, 1) := by decide +kernel
theorem dL_law_1461 : decode code 1461 = .ok (.iadd, 1) := by decide +kernel
theorem dL_law_1462 : decode code 1462 = .ok (.iaload, 1) := by decide +kernel
theorem dL_law_1463 : decode code 1463 = .ok (.invokevirtual 212, 3) := by decide +kernel
theorem dL_law_1466 : decode code 1466 = .ok (.if_icmp .eq 540, 3) := by decide +kernel
theorem dL_law_1471 : decode code 1471 = .ok (.aload_n 1, 1) := by decide +kernel
theorem dL_law_1472 : decode code 1472 = .ok (.aload_n 0, 1) := by decide +kernel
theorem dL_law_1473 : decode code 1473 = .ok (.iload_n 3, 1) := by decide +kernel
theorem dL_law_1474 : decode code 1474 = .ok (.iconst 1, 1) := by decide +kernel
theorem dL_law_1475 : decode code 1475 = .ok (.iadd, 1) := by decide +kernel
theorem dL_law_1476 : decode code 1476 = .ok (.iaload, 1) := by decide +kernel
theorem dL_law_1477 : decode code 1477 = .ok (.aload_n 0, 1) := by decide +kernel
theorem dL_law_1478 : decode code 1478 = .ok (.iload_n 3, 1) := by decide +kernel
theorem dL_law_1479 : decode code 1479 = .ok (.iconst 2, 1) := by decide +kernel
theorem dL_law_1480 : decode code 1480 = .ok (.iadd, 1) := by decide +kernel
theorem dL_law_1481 : decode code 1481 = .ok (.iaload, 1) := by decide +kernel
theorem dL_law_1482 : decode code 1482 = .ok (.invokevirtual 213, 3) := by decide +kernel
theorem dL_law_1485 : decode code 1485 = .ok (.aload_n 2, 1) := by decide +kernel
theorem dL_law_1486 : decode code 1486 = .ok (.aload_n 0, 1) := by decide +kernel
theorem dL_law_1487 : decode code 1487 = .ok (.iload_n 3, 1) := by decide +kernel
theorem dL_law_1488 : decode code 1488 = .ok (.iconst 1, 1) := by decide +kernel
theorem dL_law_1489 : decode code 1489 = .ok (.iadd, 1) := by decide +kernel
theorem dL_law_1490 : decode code 1490 = .ok (.iaload, 1) := by decide +kernel
theorem dL_law_1491 : decode code 1491 = .ok (.aload_n 0, 1) := by decide +kernel
theorem dL_law_1492 : decode code 1492 = .ok (.iload_n 3, 1) := by decide +kernel
theorem dL_law_1493 : decode code 1493 = .ok (.iconst 2, 1) := by decide +kernel
theorem dL_law_1494 : decode code 1494 = .ok (.iadd, 1) := by decide +kernel
theorem dL_law_1495 : decode code 1495 = .ok (.iaload, 1) := by decide +kernel
theorem dL_law_1496 : decode code 1496 = .ok (.invokevirtual 216, 3) := by decide +kernel
theorem dL_law_1499 : decode code 1499 = .ok (.if_icmp .eq 507, 3) := by decide +kernel
theorem dL_law_1504 : decode code 1504 = .ok (.aload_n 1, 1) := by decide +kernel
theorem dL_law_1505 : decode code 1505 = .ok (.aload_n 0, 1) := by decide +kernel
theorem dL_law_1506 : decode code 1506 = .ok (.iload_n 3, 1) := by decide +kernel
theorem dL_law_1507 : decode code 1507 = .ok (.iconst 1, 1) := by decide +kernel
theorem dL_law_1508 : decode code 1508 = .ok (.iadd, 1) := by decide +kernel
theorem dL_law_1509 : decode code 1509 = .ok (.iaload, 1) := by decide +kernel
theorem dL_law_1510 : decode code 1510 = .ok (.invokevirtual 217, 3) := by decide +kernel
theorem dL_law_1513 : decode code 1513 = .ok (.aload_n 2, 1) := by decide +kernel
theorem dL_law_1514 : decode code 1514 = .ok (.aload_n 0, 1) := by decide +kernel
theorem dL_law_1515 : decode code 1515 = .ok (.iload_n 3, 1) := by decide +kernel
theorem dL_law_1516 : decode code 1516 = .ok (.iconst 1, 1) := by decide +kernel
theorem dL_law_1517 : decode code 1517 = .ok (.iadd, 1) := by decide +kernel
theorem dL_law_1518 : decode code 1518 = .ok (.iaload, 1) := by decide +kernel
theorem dL_law_1519 : decode code 1519 = .ok (.invokevirtual 220, 3) := by decide +kernel
theorem dL_law_1522 : decode code 1522 = .ok (.if_icmp .eq 484, 3) := by decide +kernel
theorem dL_law_1527 : decode code 1527 = .ok (.aload_n 1, 1) := by decide +kernel
theorem dL_law_1528 : decode code 1528 = .ok (.aload_n 0, 1) := by decide +kernel
theorem dL_law_1529 : decode code 1529 = .ok (.iload_n 3, 1) := by decide +kernel
theorem dL_law_1530 : decode code 1530 = .ok (.iconst 1, 1) := by decide +kernel
theorem dL_law_1531 : decode code 1531 = .ok (.iadd, 1) := by decide +kernel
theorem dL_law_1532 : decode code 1532 = .ok (.iaload, 1) := by decide +kernel
theorem dL_law_1533 : decode code 1533 = .ok (.invokevirtual 221, 3) := by decide +kernel
theorem dL_law_1536 : decode code 1536 = .ok (.aload_n 2, 1) := by decide +kernel
theorem dL_law_1537 : decode code 1537 = .ok (.aload_n 0, 1) := by decide +kernel
theorem dL_law_1538 : decode code 1538 = .ok (.iload_n 3, 1) := by decide +kernel
theorem dL_law_1539 : decode code 1539 = .ok (.iconst 1, 1) := by decide +kernel
theorem dL_law_1540 : decode code 1540 = .ok (.iadd, 1) := by decide +kernel
theorem dL_law_1541 : decode code 1541 = .ok (.iaload, 1) := by decide +kernel
theorem dL_law_1542 : decode code 1542 = .ok (.invokevirtual 224, 3) := by decide +kernel
theorem dL_law_1545 : decode code 1545 = .ok (.if_icmp .eq 461, 3) := by decide +kernel
theorem dL_law_1550 : decode code 1550 = .ok (.aload_n 1, 1) := by decide +kernel
theorem dL_law_1551 : decode code 1551 = .ok (.aload_n 0, 1) := by decide +kernel
theorem dL_law_1552 : decode code 1552 = .ok (.iload_n 3, 1) := by decide +kernel
theorem dL_law_1553 : decode code 1553 = .ok (.iconst 1, 1) := by decide +kernel
theorem dL_law_1554 : decode code 1554 = .ok (.iadd, 1) := by decide +kernel
theorem dL_law_1555 : decode code 1555 = .ok (.iaload, 1) := by decide +kernel
theorem dL_law_1556 : decode code 1556 = .ok (.aload_n 0, 1) := by decide +kernel
theorem dL_law_1557 : decode code 1557 = .ok (.iload_n 3, 1) := by decide +kernel
theorem dL_law_1558 : decode code 1558 = .ok (.iconst 2, 1) := by decide +kernel
theorem dL_law_1559 : decode code 1559 = .ok (.iadd, 1) := by decide +kernel
theorem dL_law_1560 : decode code 1560 = .ok (.iaload, 1) := by decide +kernel
theorem dL_law_1561 : decode code 1561 = .ok (.invokevirtual 225, 3) := by decide +kernel
theorem dL_law_1564 : decode code 1564 = .ok (.aload_n 2, 1) := by decide +kernel
theorem dL_law_1565 : decode code 1565 = .ok (.aload_n 0, 1) := by decide +kernel
theorem dL_law_1566 : decode code 1566 = .ok (.iload_n 3, 1) := by decide +kernel
theorem dL_law_1567 : decode code 1567 = .ok (.iconst 1, 1) := by decide +kernel
theorem dL_law_1568 : decode code 1568 = .ok (.iadd, 1) := by decide +kernel
theorem dL_law_1569 : decode code 1569 = .ok (.iaload, 1) := by decide +kernel
theorem dL_law_1570 : decode code 1570 = .ok (.aload_n 0, 1) := by decide +kernel
theorem dL_law_1571 : decode code 1571 = .ok (.iload_n 3, 1) := by decide +kernel
theorem dL_law_1572 : decode code 1572 = .ok (.iconst 2, 1) := by decide +kernel
theorem dL_law_1573 : decode code 1573 = .ok (.iadd, 1) := by decide +kernel
theorem dL_law_1574 : decode code 1574 = .ok (.iaload, 1) := by decide +kernel
theorem dL_law_1575 : decode code 1575 = .ok (.invokevirtual 228, 3) := by decide +kernel
theorem dL_law_1578 : decode code 1578 = .ok (.if_icmp .eq 428, 3) := by decide +kernel
theorem dL_law_1583 : decode code 1583 = .ok (.aload_n 1, 1) := by decide +kernel
theorem dL_law_1584 : decode code 1584 = .ok (.aload_n 0, 1) := by decide +kernel
theorem dL_law_1585 : decode code 1585 = .ok (.iload_n 3, 1) := by decide +kernel
theorem dL_law_1586 : decode code 1586 = .ok (.iconst 1, 1) := by decide +kernel
theorem dL_law_1587 : decode code 1587 = .ok (.iadd, 1) := by decide +kernel
theorem dL_law_1588 : decode code 1588 = .ok (.iaload, 1) := by decide +kernel
theorem dL_law_1589 : decode code 1589 = .ok (.aload_n 0, 1) := by decide +kernel
theorem dL_law_1590 : decode code 1590 = .ok (.iload_n 3, 1) := by decide +kernel
theorem dL_law_1591 : decode code 1591 = .ok (.iconst 2, 1) := by decide +kernel
theorem dL_law_1592 : decode code 1592 = .ok (.iadd, 1) := by decide +kernel
theorem dL_law_1593 : decode code 1593 = .ok (.iaload, 1) := by decide +kernel
theorem dL_law_1594 : decode code 1594 = .ok (.invokevirtual 229, 3) := by decide +kernel
theorem dL_law_1597 : decode code 1597 = .ok (.aload_n 2, 1) := by decide +kernel
theorem dL_law_1598 : decode code 1598 = .ok (.aload_n 0, 1) := by decide +kernel
theorem dL_law_1599 : decode code 1599 = .ok (.iload_n 3, 1) := by decide +kernel
theorem dL_law_1600 : decode code 1600 = .ok (.iconst 1, 1) := by decide +kernel
theorem dL_law_1601 : decode code 1601 = .ok (.iadd, 1) := by decide +kernel
theorem dL_law_1602 : decode code 1602 = .ok (.iaload, 1) := by decide +kernel
theorem dL_law_1603 : decode code 1603 = .ok (.aload_n 0, 1) := by decide +kernel
theorem dL_law_1604 : decode code 1604 = .ok (.iload_n 3, 1) := by decide +kernel
theorem dL_law_1605 : decode code 1605 = .ok (.iconst 2, 1) := by decide +kernel
theorem dL_law_1606 : decode code 1606 = .ok (.iadd, 1) := by decide +kernel
theorem dL_law_1607 : decode code 1607 = .ok (.iaload, 1) := by decide +kernel
theorem dL_law_1608 : decode code 1608 = .ok (.invokevirtual 232, 3) := by decide +kernel
theorem dL_law_1611 : decode code 1611 = .ok (.if_icmp .eq 395, 3) := by decide +kernel
theorem dL_law_1616 : decode code 1616 = .ok (.aload_n 1, 1) := by decide +kernel
theorem dL_law_1617 : decode code 1617 = .ok (.aload_n 0, 1) := by decide +kernel
theorem dL_law_1618 : decode code 1618 = .ok (.iload_n 3, 1) := by decide +kernel
theorem dL_law_1619 : decode code 1619 = .ok (.iconst 1, 1) := by decide +kernel
theorem dL_law_1620 : decode code 1620 = .ok (.iadd, 1) := by decide +kernel
theorem dL_law_1621 : decode code 1621 = .ok (.iaload, 1) := by decide +kernel
theorem dL_law_1622 : decode code 1622 = .ok (.aload_n 0, 1) := by decide +kernel
theorem dL_law_1623 : decode code 1623 = .ok (.iload_n 3, 1) := by decide +kernel
theorem dL_law_1624 : decode code 1624 = .ok (.iconst 2, 1) := by decide +kernel
theorem dL_law_1625 : decode code 1625 = .ok (.iadd, 1) := by decide +kernel
theorem dL_law_1626 : decode code 1626 = .ok (.iaload, 1) := by decide +kernel
theorem dL_law_1627 : decode code 1627 = .ok (.invokevirtual 233, 3) := by decide +kernel
theorem dL_law_1630 : decode code 1630 = .ok (.aload_n 2, 1) := by decide +kernel
theorem dL_law_1631 : decode code 1631 = .ok (.aload_n 0, 1) := by decide +kernel
theorem dL_law_1632 : decode code 1632 = .ok (.iload_n 3, 1) := by decide +kernel
theorem dL_law_1633 : decode code 1633 = .ok (.iconst 1, 1) := by decide +kernel
theorem dL_law_1634 : decode code 1634 = .ok (.iadd, 1) := by decide +kernel
theorem dL_law_1635 : decode code 1635 = .ok (.iaload, 1) := by decide +kernel
theorem dL_law_1636 : decode code 1636 = .ok (.aload_n 0, 1) := by decide +kernel
theorem dL_law_1637 : decode code 1637 = .ok (.iload_n 3, 1) := by decide +kernel
theorem dL_law_1638 : decode code 1638 = .ok (.iconst 2, 1) := by decide +kernel
theorem dL_law_1639 : decode code 1639 = .ok (.iadd, 1) := by decide +kernel
theorem dL_law_1640 : decode code 1640 = .ok (.iaload, 1) := by decide +kernel
theorem dL_law_1641 : decode code 1641 = .ok (.invokevirtual 236, 3) := by decide +kernel
theorem dL_law_1644 : decode code 1644 = .ok (.if_icmp .eq 362, 3) := by decide +kernel
theorem dL_law_1649 : decode code 1649 = .ok (.aload_n 1, 1) := by decide +kernel
theorem dL_law_1650 : decode code 1650 = .ok (.aload_n 0, 1) := by decide +kernel
theorem dL_law_1651 : decode code 1651 = .ok (.iload_n 3, 1) := by decide +kernel
theorem dL_law_1652 : decode code 1652 = .ok (.iconst 1, 1) := by decide +kernel
theorem dL_law_1653 : decode code 1653 = .ok (.iadd, 1) := by decide +kernel
theorem dL_law_1654 : decode code 1654 = .ok (.iaload, 1) := by decide +kernel
theorem dL_law_1655 : decode code 1655 = .ok (.aload_n 0, 1) := by decide +kernel
theorem dL_law_1656 : decode code 1656 = .ok (.iload_n 3, 1) := by decide +kernel
theorem dL_law_1657 : decode code 1657 = .ok (.iconst 2, 1) := by decide +kernel
theorem dL_law_1658 : decode code 1658 = .ok (.iadd, 1) := by decide +kernel
theorem dL_law_1659 : decode code 1659 = .ok (.iaload, 1) := by decide +kernel
theorem dL_law_1660 : decode code 1660 = .ok (.invokevirtual 237, 3) := by decide +kernel
theorem dL_law_1663 : decode code 1663 = .ok (.aload_n 2, 1) := by decide +kernel
theorem dL_law_1664 : decode code 1664 = .ok (.aload_n 0, 1) := by decide +kernel
theorem dL_law_1665 : decode code 1665 = .ok (.iload_n 3, 1) := by decide +kernel
theorem dL_law_1666 : decode code 1666 = .ok (.iconst 1, 1) := by decide +kernel
theorem dL_law_1667 : decode code 1667 = .ok (.iadd, 1) := by decide +kernel
theorem dL_law_1668 : decode code 1668 = .ok (.iaload, 1) := by decide +kernel
theorem dL_law_1669 : decode code 1669 = .ok (.aload_n 0, 1) := by decide +kernel
theorem dL_law_1670 : decode code 1670 = .ok (.iload_n 3, 1) := by decide +kernel
theorem dL_law_1671 : decode code 1671 = .ok (.iconst 2, 1) := by decide +kernel
theorem dL_law_1672 : decode code 1672 = .ok (.iadd, 1) := by decide +kernel
theorem dL_law_1673 : decode code 1673 = .ok (.iaload, 1) := by decide +kernel
theorem dL_law_1674 : decode code 1674 = .ok (.invokevirtual 240, 3) := by decide +kernel
theorem dL_law_1677 : decode code 1677 = .ok (.if_icmp .eq 329, 3) := by decide +kernel
theorem dL_law_1682 : decode code 1682 = .ok (.aload_n 1, 1) := by decide +kernel
theorem dL_law_1683 : decode code 1683 = .ok (.aload_n 0, 1) := by decide +kernel
theorem dL_law_1684 : decode code 1684 = .ok (.iload_n 3, 1) := by decide +kernel
theorem dL_law_1685 : decode code 1685 = .ok (.iconst 1, 1) := by decide +kernel
theorem dL_law_1686 : decode code 1686 = .ok (.iadd, 1) := by decide +kernel
theorem dL_law_1687 : decode code 1687 = .ok (.iaload, 1) := by decide +kernel
theorem dL_law_1688 : decode code 1688 = .ok (.aload_n 0, 1) := by decide +kernel
theorem dL_law_1689 : decode code 1689 = .ok (.iload_n 3, 1) := by decide +kernel
theorem dL_law_1690 : decode code 1690 = .ok (.iconst 2, 1) := by decide +kernel
theorem dL_law_1691 : decode code 1691 = .ok (.iadd, 1) := by decide +kernel
theorem dL_law_1692 : decode code 1692 = .ok (.iaload, 1) := by decide +kernel
theorem dL_law_1693 : decode code 1693 = .ok (.invokevirtual 241, 3) := by decide +kernel
theorem dL_law_1696 : decode code 1696 = .ok (.aload_n 2, 1) := by decide +kernel
theorem dL_law_1697 : decode code 1697 = .ok (.aload_n 0, 1) := by decide +kernel
theorem dL_law_1698 : decode code 1698 = .ok (.iload_n 3, 1) := by decide +kernel
theorem dL_law_1699 : decode code 1699 = .ok (.iconst 1, 1) := by decide +kernel
theorem dL_law_1700 : decode code 1700 = .ok (.iadd, 1) := by decide +kernel
theorem dL_law_1701 : decode code 1701 = .ok (.iaload, 1) := by decide +kernel
theorem dL_law_1702 : decode code 1702 = .ok (.aload_n 0, 1) := by decide +kernel
theorem dL_law_1703 : decode code 1703 = .ok (.iload_n 3, 1) := by decide +kernel
theorem dL_law_1704 : decode code 1704 = .ok (.iconst 2, 1) := by decide +kernel
theorem dL_law_1705 : decode code 1705 = .ok (.iadd, 1) := by decide +kernel
theorem dL_law_1706 : decode code 1706 = .ok (.iaload, 1) := by decide +kernel
theorem dL_law_1707 : decode code 1707 = .ok (.invokevirtual 244, 3) := by decide +kernel
theorem dL_law_1710 : decode code 1710 = .ok (.if_icmp .eq 296, 3) := by decide +kernel
theorem dL_law_1715 : decode code 1715 = .ok (.aload_n 1, 1) := by decide +kernel
theorem dL_law_1716 : decode code 1716 = .ok (.aload_n 0, 1) := by decide +kernel
theorem dL_law_1717 : decode code 1717 = .ok (.iload_n 3, 1) := by decide +kernel
theorem dL_law_1718 : decode code 1718 = .ok (.iconst 1, 1) := by decide +kernel
theorem dL_law_1719 : decode code 1719 = .ok (.iadd, 1) := by decide +kernel
theorem dL_law_1720 : decode code 1720 = .ok (.iaload, 1) := by decide +kernel
theorem dL_law_1721 : decode code 1721 = .ok (.aload_n 0, 1) := by decide +kernel
theorem dL_law_1722 : decode code 1722 = .ok (.iload_n 3, 1) := by decide +kernel
theorem dL_law_1723 : decode code 1723 = .ok (.iconst 2, 1) := by decide +kernel
theorem dL_law_1724 : decode code 1724 = .ok (.iadd, 1) := by decide +kernel
theorem dL_law_1725 : decode code 1725 = .ok (.iaload, 1) := by decide +kernel
theorem dL_law_1726 : decode code 1726 = .ok (.aload_n 0, 1) := by decide +kernel
theorem dL_law_1727 : decode code 1727 = .ok (.iload_n 3, 1) := by decide +kernel
theorem dL_law_1728 : decode code 1728 = .ok (.iconst 3, 1) := by decide +kernel
theorem dL_law_1729 : decode code 1729 = .ok (.iadd, 1) := by decide +kernel
theorem dL_law_1730 : decode code 1730 = .ok (.iaload, 1) := by decide +kernel
theorem dL_law_1731 : decode code 1731 = .ok (.invokevirtual 245, 3) := by decide +kernel
theorem dL_law_1734 : decode code 1734 = .ok (.aload_n 2, 1) := by decide +kernel
theorem dL_law_1735 : decode code 1735 = .ok (.aload_n 0, 1) := by decide +kernel
theorem dL_law_1736 : decode code 1736 = .ok (.iload_n 3, 1) := by decide +kernel
theorem dL_law_1737 : decode code 1737 = .ok (.iconst 1, 1) := by decide +kernel
theorem dL_law_1738 : decode code 1738 = .ok (.iadd, 1) := by decide +kernel
theorem dL_law_1739 : decode code 1739 = .ok (.iaload, 1) := by decide +kernel
theorem dL_law_1740 : decode code 1740 = .ok (.aload_n 0, 1) := by decide +kernel
theorem dL_law_1741 : decode code 1741 = .ok (.iload_n 3, 1) := by decide +kernel
theorem dL_law_1742 : decode code 1742 = .ok (.iconst 2, 1) := by decide +kernel
theorem dL_law_1743 : decode code 1743 = .ok (.iadd, 1) := by decide +kernel
theorem dL_law_1744 : decode code 1744 = .ok (.iaload, 1) := by decide +kernel
theorem dL_law_1745 : decode code 1745 = .ok (.aload_n 0, 1) := by decide +kernel
theorem dL_law_1746 : decode code 1746 = .ok (.iload_n 3, 1) := by decide +kernel
theorem dL_law_1747 : decode code 1747 = .ok (.iconst 3, 1) := by decide +kernel
theorem dL_law_1748 : decode code 1748 = .ok (.iadd, 1) := by decide +kernel
theorem dL_law_1749 : decode code 1749 = .ok (.iaload, 1) := by decide +kernel
theorem dL_law_1750 : decode code 1750 = .ok (.invokevirtual 249, 3) := by decide +kernel
theorem dL_law_1753 : decode code 1753 = .ok (.if_icmp .eq 253, 3) := by decide +kernel
theorem dL_law_1758 : decode code 1758 = .ok (.aload_n 1, 1) := by decide +kernel
theorem dL_law_1759 : decode code 1759 = .ok (.aload_n 0, 1) := by decide +kernel
theorem dL_law_1760 : decode code 1760 = .ok (.iload_n 3, 1) := by decide +kernel
theorem dL_law_1761 : decode code 1761 = .ok (.iconst 1, 1) := by decide +kernel
theorem dL_law_1762 : decode code 1762 = .ok (.iadd, 1) := by decide +kernel
theorem dL_law_1763 : decode code 1763 = .ok (.iaload, 1) := by decide +kernel
theorem dL_law_1764 : decode code 1764 = .ok (.invokevirtual 250, 3) := by decide +kernel
theorem dL_law_1767 : decode code 1767 = .ok (.aload_n 2, 1) := by decide +kernel
theorem dL_law_1768 : decode code 1768 = .ok (.aload_n 0, 1) := by decide +kernel
theorem dL_law_1769 : decode code 1769 = .ok (.iload_n 3, 1) := by decide +kernel
theorem dL_law_1770 : decode code 1770 = .ok (.iconst 1, 1) := by decide +kernel
theorem dL_law_1771 : decode code 1771 = .ok (.iadd, 1) := by decide +kernel
theorem dL_law_1772 : decode code 1772 = .ok (.iaload, 1) := by decide +kernel
theorem dL_law_1773 : decode code 1773 = .ok (.invokevirtual 253, 3) := by decide +kernel
theorem dL_law_1776 : decode code 1776 = .ok (.if_icmp .eq 230, 3) := by decide +kernel
theorem dL_law_1781 : decode code 1781 = .ok (.aload_n 1, 1) := by decide +kernel
theorem dL_law_1782 : decode code 1782 = .ok (.aload_n 0, 1) := by decide +kernel
theorem dL_law_1783 : decode code 1783 = .ok (.iload_n 3, 1) := by decide +kernel
theorem dL_law_1784 : decode code 1784 = .ok (.iconst 1, 1) := by decide +kernel
theorem dL_law_1785 : decode code 1785 = .ok (.iadd, 1) := by decide +kernel
theorem dL_law_1786 : decode code 1786 = .ok (.iaload, 1) := by decide +kernel
theorem dL_law_1787 : decode code 1787 = .ok (.invokevirtual 254, 3) := by decide +kernel
theorem dL_law_1790 : decode code 1790 = .ok (.aload_n 2, 1) := by decide +kernel
theorem dL_law_1791 : decode code 1791 = .ok (.aload_n 0, 1) := by decide +kernel
theorem dL_law_1792 : decode code 1792 = .ok (.iload_n 3, 1) := by decide +kernel
theorem dL_law_1793 : decode code 1793 = .ok (.iconst 1, 1) := by decide +kernel
theorem dL_law_1794 : decode code 1794 = .ok (.iadd, 1) := by decide +kernel
theorem dL_law_1795 : decode code 1795 = .ok (.iaload, 1) := by decide +kernel
theorem dL_law_1796 : decode code 1796 = .ok (.invokevirtual 257, 3) := by decide +kernel
theorem dL_law_1799 : decode code 1799 = .ok (.if_icmp .eq 207, 3) := by decide +kernel
theorem dL_law_1804 : decode code 1804 = .ok (.aload_n 1, 1) := by decide +kernel
theorem dL_law_1805 : decode code 1805 = .ok (.aload_n 0, 1) := by decide +kernel
theorem dL_law_1806 : decode code 1806 = .ok (.iload_n 3, 1) := by decide +kernel
theorem dL_law_1807 : decode code 1807 = .ok (.iconst 1, 1) := by decide +kernel
theorem dL_law_1808 : decode code 1808 = .ok (.iadd, 1) := by decide +kernel
theorem dL_law_1809 : decode code 1809 = .ok (.iaload, 1) := by decide +kernel
theorem dL_law_1810 : decode code 1810 = .ok (.invokevirtual 258, 3) := by decide +kernel
theorem dL_law_1813 : decode code 1813 = .ok (.aload_n 2, 1) := by decide +kernel
