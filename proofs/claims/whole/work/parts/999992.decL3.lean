theorem dL_law_1352 : decode cL_law 1352 = .ok (.iaload, 1) := by decide +kernel
theorem dL_law_1353 : decode cL_law 1353 = .ok (.aload_n 0, 1) := by decide +kernel
theorem dL_law_1354 : decode cL_law 1354 = .ok (.iload 4, 2) := by decide +kernel
theorem dL_law_1356 : decode cL_law 1356 = .ok (.iconst 2, 1) := by decide +kernel
theorem dL_law_1357 : decode cL_law 1357 = .ok (.iadd, 1) := by decide +kernel
theorem dL_law_1358 : decode cL_law 1358 = .ok (.iaload, 1) := by decide +kernel
theorem dL_law_1359 : decode cL_law 1359 = .ok (.invokevirtual 190, 3) := by decide +kernel
theorem dL_law_1362 : decode cL_law 1362 = .ok (.istore 6, 2) := by decide +kernel
theorem dL_law_1364 : decode cL_law 1364 = .ok (.aload_n 2, 1) := by decide +kernel
theorem dL_law_1365 : decode cL_law 1365 = .ok (.invokevirtual 127, 3) := by decide +kernel
theorem dL_law_1368 : decode cL_law 1368 = .ok (.iload 5, 2) := by decide +kernel
theorem dL_law_1370 : decode cL_law 1370 = .ok (.if_icmp .eq 5, 3) := by decide +kernel
theorem dL_law_1373 : decode cL_law 1373 = .ok (.iconst 0, 1) := by decide +kernel
theorem dL_law_1374 : decode cL_law 1374 = .ok (.ireturn, 1) := by decide +kernel
theorem dL_law_1375 : decode cL_law 1375 = .ok (.iload 5, 2) := by decide +kernel
theorem dL_law_1377 : decode cL_law 1377 = .ok (.ifCond .ne 15, 3) := by decide +kernel
theorem dL_law_1380 : decode cL_law 1380 = .ok (.aload_n 3, 1) := by decide +kernel
theorem dL_law_1381 : decode cL_law 1381 = .ok (.iconst 0, 1) := by decide +kernel
theorem dL_law_1382 : decode cL_law 1382 = .ok (.laload, 1) := by decide +kernel
theorem dL_law_1383 : decode cL_law 1383 = .ok (.iload 6, 2) := by decide +kernel
theorem dL_law_1385 : decode cL_law 1385 = .ok (.i2l, 1) := by decide +kernel
theorem dL_law_1386 : decode cL_law 1386 = .ok (.lcmp, 1) := by decide +kernel
theorem dL_law_1387 : decode cL_law 1387 = .ok (.ifCond .eq 5, 3) := by decide +kernel
theorem dL_law_1390 : decode cL_law 1390 = .ok (.iconst 0, 1) := by decide +kernel
theorem dL_law_1391 : decode cL_law 1391 = .ok (.ireturn, 1) := by decide +kernel
theorem dL_law_1392 : decode cL_law 1392 = .ok (.goto 1128, 3) := by decide +kernel
theorem dL_law_1395 : decode cL_law 1395 = .ok (.aload_n 1, 1) := by decide +kernel
theorem dL_law_1396 : decode cL_law 1396 = .ok (.aload_n 0, 1) := by decide +kernel
theorem dL_law_1397 : decode cL_law 1397 = .ok (.iload 4, 2) := by decide +kernel
theorem dL_law_1399 : decode cL_law 1399 = .ok (.iconst 1, 1) := by decide +kernel
theorem dL_law_1400 : decode cL_law 1400 = .ok (.iadd, 1) := by decide +kernel
theorem dL_law_1401 : decode cL_law 1401 = .ok (.iaload, 1) := by decide +kernel
theorem dL_law_1402 : decode cL_law 1402 = .ok (.aload_n 0, 1) := by decide +kernel
theorem dL_law_1403 : decode cL_law 1403 = .ok (.iload 4, 2) := by decide +kernel
theorem dL_law_1405 : decode cL_law 1405 = .ok (.iconst 2, 1) := by decide +kernel
theorem dL_law_1406 : decode cL_law 1406 = .ok (.iadd, 1) := by decide +kernel
theorem dL_law_1407 : decode cL_law 1407 = .ok (.iaload, 1) := by decide +kernel
theorem dL_law_1408 : decode cL_law 1408 = .ok (.aload_n 0, 1) := by decide +kernel
theorem dL_law_1409 : decode cL_law 1409 = .ok (.iload 4, 2) := by decide +kernel
theorem dL_law_1411 : decode cL_law 1411 = .ok (.iconst 3, 1) := by decide +kernel
theorem dL_law_1412 : decode cL_law 1412 = .ok (.iadd, 1) := by decide +kernel
theorem dL_law_1413 : decode cL_law 1413 = .ok (.iaload, 1) := by decide +kernel
theorem dL_law_1414 : decode cL_law 1414 = .ok (.aload_n 0, 1) := by decide +kernel
theorem dL_law_1415 : decode cL_law 1415 = .ok (.iload 4, 2) := by decide +kernel
theorem dL_law_1417 : decode cL_law 1417 = .ok (.iconst 4, 1) := by decide +kernel
theorem dL_law_1418 : decode cL_law 1418 = .ok (.iadd, 1) := by decide +kernel
theorem dL_law_1419 : decode cL_law 1419 = .ok (.iaload, 1) := by decide +kernel
theorem dL_law_1420 : decode cL_law 1420 = .ok (.aload_n 3, 1) := by decide +kernel
theorem dL_law_1421 : decode cL_law 1421 = .ok (.invokestatic 191, 3) := by decide +kernel
theorem dL_law_1424 : decode cL_law 1424 = .ok (.istore 5, 2) := by decide +kernel
theorem dL_law_1426 : decode cL_law 1426 = .ok (.aload_n 2, 1) := by decide +kernel
theorem dL_law_1427 : decode cL_law 1427 = .ok (.aload_n 0, 1) := by decide +kernel
theorem dL_law_1428 : decode cL_law 1428 = .ok (.iload 4, 2) := by decide +kernel
theorem dL_law_1430 : decode cL_law 1430 = .ok (.iconst 1, 1) := by decide +kernel
theorem dL_law_1431 : decode cL_law 1431 = .ok (.iadd, 1) := by decide +kernel
theorem dL_law_1432 : decode cL_law 1432 = .ok (.iaload, 1) := by decide +kernel
theorem dL_law_1433 : decode cL_law 1433 = .ok (.aload_n 0, 1) := by decide +kernel
theorem dL_law_1434 : decode cL_law 1434 = .ok (.iload 4, 2) := by decide +kernel
theorem dL_law_1436 : decode cL_law 1436 = .ok (.iconst 2, 1) := by decide +kernel
theorem dL_law_1437 : decode cL_law 1437 = .ok (.iadd, 1) := by decide +kernel
theorem dL_law_1438 : decode cL_law 1438 = .ok (.iaload, 1) := by decide +kernel
theorem dL_law_1439 : decode cL_law 1439 = .ok (.aload_n 0, 1) := by decide +kernel
theorem dL_law_1440 : decode cL_law 1440 = .ok (.iload 4, 2) := by decide +kernel
theorem dL_law_1442 : decode cL_law 1442 = .ok (.iconst 3, 1) := by decide +kernel
theorem dL_law_1443 : decode cL_law 1443 = .ok (.iadd, 1) := by decide +kernel
theorem dL_law_1444 : decode cL_law 1444 = .ok (.iaload, 1) := by decide +kernel
theorem dL_law_1445 : decode cL_law 1445 = .ok (.aload_n 0, 1) := by decide +kernel
theorem dL_law_1446 : decode cL_law 1446 = .ok (.iload 4, 2) := by decide +kernel
theorem dL_law_1448 : decode cL_law 1448 = .ok (.iconst 4, 1) := by decide +kernel
theorem dL_law_1449 : decode cL_law 1449 = .ok (.iadd, 1) := by decide +kernel
theorem dL_law_1450 : decode cL_law 1450 = .ok (.iaload, 1) := by decide +kernel
theorem dL_law_1451 : decode cL_law 1451 = .ok (.invokevirtual 194, 3) := by decide +kernel
theorem dL_law_1454 : decode cL_law 1454 = .ok (.istore 6, 2) := by decide +kernel
theorem dL_law_1456 : decode cL_law 1456 = .ok (.aload_n 2, 1) := by decide +kernel
theorem dL_law_1457 : decode cL_law 1457 = .ok (.invokevirtual 127, 3) := by decide +kernel
theorem dL_law_1460 : decode cL_law 1460 = .ok (.iload 5, 2) := by decide +kernel
theorem dL_law_1462 : decode cL_law 1462 = .ok (.if_icmp .eq 5, 3) := by decide +kernel
theorem dL_law_1465 : decode cL_law 1465 = .ok (.iconst 0, 1) := by decide +kernel
theorem dL_law_1466 : decode cL_law 1466 = .ok (.ireturn, 1) := by decide +kernel
theorem dL_law_1467 : decode cL_law 1467 = .ok (.iload 5, 2) := by decide +kernel
theorem dL_law_1469 : decode cL_law 1469 = .ok (.ifCond .ne 15, 3) := by decide +kernel
theorem dL_law_1472 : decode cL_law 1472 = .ok (.aload_n 3, 1) := by decide +kernel
theorem dL_law_1473 : decode cL_law 1473 = .ok (.iconst 0, 1) := by decide +kernel
theorem dL_law_1474 : decode cL_law 1474 = .ok (.laload, 1) := by decide +kernel
theorem dL_law_1475 : decode cL_law 1475 = .ok (.iload 6, 2) := by decide +kernel
theorem dL_law_1477 : decode cL_law 1477 = .ok (.i2l, 1) := by decide +kernel
theorem dL_law_1478 : decode cL_law 1478 = .ok (.lcmp, 1) := by decide +kernel
theorem dL_law_1479 : decode cL_law 1479 = .ok (.ifCond .eq 5, 3) := by decide +kernel
theorem dL_law_1482 : decode cL_law 1482 = .ok (.iconst 0, 1) := by decide +kernel
theorem dL_law_1483 : decode cL_law 1483 = .ok (.ireturn, 1) := by decide +kernel
theorem dL_law_1484 : decode cL_law 1484 = .ok (.goto 1036, 3) := by decide +kernel
theorem dL_law_1487 : decode cL_law 1487 = .ok (.aload_n 1, 1) := by decide +kernel
theorem dL_law_1488 : decode cL_law 1488 = .ok (.aload_n 0, 1) := by decide +kernel
theorem dL_law_1489 : decode cL_law 1489 = .ok (.iload 4, 2) := by decide +kernel
theorem dL_law_1491 : decode cL_law 1491 = .ok (.iconst 1, 1) := by decide +kernel
theorem dL_law_1492 : decode cL_law 1492 = .ok (.iadd, 1) := by decide +kernel
theorem dL_law_1493 : decode cL_law 1493 = .ok (.iaload, 1) := by decide +kernel
theorem dL_law_1494 : decode cL_law 1494 = .ok (.aload_n 0, 1) := by decide +kernel
theorem dL_law_1495 : decode cL_law 1495 = .ok (.iload 4, 2) := by decide +kernel
theorem dL_law_1497 : decode cL_law 1497 = .ok (.iconst 2, 1) := by decide +kernel
theorem dL_law_1498 : decode cL_law 1498 = .ok (.iadd, 1) := by decide +kernel
theorem dL_law_1499 : decode cL_law 1499 = .ok (.iaload, 1) := by decide +kernel
theorem dL_law_1500 : decode cL_law 1500 = .ok (.aload_n 0, 1) := by decide +kernel
theorem dL_law_1501 : decode cL_law 1501 = .ok (.iload 4, 2) := by decide +kernel
theorem dL_law_1503 : decode cL_law 1503 = .ok (.iconst 3, 1) := by decide +kernel
theorem dL_law_1504 : decode cL_law 1504 = .ok (.iadd, 1) := by decide +kernel
theorem dL_law_1505 : decode cL_law 1505 = .ok (.iaload, 1) := by decide +kernel
theorem dL_law_1506 : decode cL_law 1506 = .ok (.aload_n 0, 1) := by decide +kernel
theorem dL_law_1507 : decode cL_law 1507 = .ok (.iload 4, 2) := by decide +kernel
theorem dL_law_1509 : decode cL_law 1509 = .ok (.iconst 4, 1) := by decide +kernel
theorem dL_law_1510 : decode cL_law 1510 = .ok (.iadd, 1) := by decide +kernel
theorem dL_law_1511 : decode cL_law 1511 = .ok (.iaload, 1) := by decide +kernel
theorem dL_law_1512 : decode cL_law 1512 = .ok (.aload_n 3, 1) := by decide +kernel
theorem dL_law_1513 : decode cL_law 1513 = .ok (.invokestatic 195, 3) := by decide +kernel
theorem dL_law_1516 : decode cL_law 1516 = .ok (.istore 5, 2) := by decide +kernel
theorem dL_law_1518 : decode cL_law 1518 = .ok (.aload_n 2, 1) := by decide +kernel
theorem dL_law_1519 : decode cL_law 1519 = .ok (.aload_n 0, 1) := by decide +kernel
theorem dL_law_1520 : decode cL_law 1520 = .ok (.iload 4, 2) := by decide +kernel
theorem dL_law_1522 : decode cL_law 1522 = .ok (.iconst 1, 1) := by decide +kernel
theorem dL_law_1523 : decode cL_law 1523 = .ok (.iadd, 1) := by decide +kernel
theorem dL_law_1524 : decode cL_law 1524 = .ok (.iaload, 1) := by decide +kernel
theorem dL_law_1525 : decode cL_law 1525 = .ok (.aload_n 0, 1) := by decide +kernel
theorem dL_law_1526 : decode cL_law 1526 = .ok (.iload 4, 2) := by decide +kernel
theorem dL_law_1528 : decode cL_law 1528 = .ok (.iconst 2, 1) := by decide +kernel
theorem dL_law_1529 : decode cL_law 1529 = .ok (.iadd, 1) := by decide +kernel
theorem dL_law_1530 : decode cL_law 1530 = .ok (.iaload, 1) := by decide +kernel
theorem dL_law_1531 : decode cL_law 1531 = .ok (.aload_n 0, 1) := by decide +kernel
theorem dL_law_1532 : decode cL_law 1532 = .ok (.iload 4, 2) := by decide +kernel
theorem dL_law_1534 : decode cL_law 1534 = .ok (.iconst 3, 1) := by decide +kernel
theorem dL_law_1535 : decode cL_law 1535 = .ok (.iadd, 1) := by decide +kernel
theorem dL_law_1536 : decode cL_law 1536 = .ok (.iaload, 1) := by decide +kernel
theorem dL_law_1537 : decode cL_law 1537 = .ok (.aload_n 0, 1) := by decide +kernel
theorem dL_law_1538 : decode cL_law 1538 = .ok (.iload 4, 2) := by decide +kernel
theorem dL_law_1540 : decode cL_law 1540 = .ok (.iconst 4, 1) := by decide +kernel
theorem dL_law_1541 : decode cL_law 1541 = .ok (.iadd, 1) := by decide +kernel
theorem dL_law_1542 : decode cL_law 1542 = .ok (.iaload, 1) := by decide +kernel
theorem dL_law_1543 : decode cL_law 1543 = .ok (.invokevirtual 197, 3) := by decide +kernel
theorem dL_law_1546 : decode cL_law 1546 = .ok (.istore 6, 2) := by decide +kernel
theorem dL_law_1548 : decode cL_law 1548 = .ok (.aload_n 2, 1) := by decide +kernel
theorem dL_law_1549 : decode cL_law 1549 = .ok (.invokevirtual 127, 3) := by decide +kernel
theorem dL_law_1552 : decode cL_law 1552 = .ok (.iload 5, 2) := by decide +kernel
theorem dL_law_1554 : decode cL_law 1554 = .ok (.if_icmp .eq 5, 3) := by decide +kernel
theorem dL_law_1557 : decode cL_law 1557 = .ok (.iconst 0, 1) := by decide +kernel
theorem dL_law_1558 : decode cL_law 1558 = .ok (.ireturn, 1) := by decide +kernel
theorem dL_law_1559 : decode cL_law 1559 = .ok (.iload 5, 2) := by decide +kernel
theorem dL_law_1561 : decode cL_law 1561 = .ok (.ifCond .ne 15, 3) := by decide +kernel
theorem dL_law_1564 : decode cL_law 1564 = .ok (.aload_n 3, 1) := by decide +kernel
theorem dL_law_1565 : decode cL_law 1565 = .ok (.iconst 0, 1) := by decide +kernel
theorem dL_law_1566 : decode cL_law 1566 = .ok (.laload, 1) := by decide +kernel
theorem dL_law_1567 : decode cL_law 1567 = .ok (.iload 6, 2) := by decide +kernel
theorem dL_law_1569 : decode cL_law 1569 = .ok (.i2l, 1) := by decide +kernel
theorem dL_law_1570 : decode cL_law 1570 = .ok (.lcmp, 1) := by decide +kernel
theorem dL_law_1571 : decode cL_law 1571 = .ok (.ifCond .eq 5, 3) := by decide +kernel
theorem dL_law_1574 : decode cL_law 1574 = .ok (.iconst 0, 1) := by decide +kernel
theorem dL_law_1575 : decode cL_law 1575 = .ok (.ireturn, 1) := by decide +kernel
theorem dL_law_1576 : decode cL_law 1576 = .ok (.goto 944, 3) := by decide +kernel
theorem dL_law_1579 : decode cL_law 1579 = .ok (.aload_n 1, 1) := by decide +kernel
theorem dL_law_1580 : decode cL_law 1580 = .ok (.aload_n 0, 1) := by decide +kernel
theorem dL_law_1581 : decode cL_law 1581 = .ok (.iload 4, 2) := by decide +kernel
theorem dL_law_1583 : decode cL_law 1583 = .ok (.iconst 1, 1) := by decide +kernel
theorem dL_law_1584 : decode cL_law 1584 = .ok (.iadd, 1) := by decide +kernel
theorem dL_law_1585 : decode cL_law 1585 = .ok (.iaload, 1) := by decide +kernel
theorem dL_law_1586 : decode cL_law 1586 = .ok (.aload_n 0, 1) := by decide +kernel
theorem dL_law_1587 : decode cL_law 1587 = .ok (.iload 4, 2) := by decide +kernel
theorem dL_law_1589 : decode cL_law 1589 = .ok (.iconst 2, 1) := by decide +kernel
theorem dL_law_1590 : decode cL_law 1590 = .ok (.iadd, 1) := by decide +kernel
theorem dL_law_1591 : decode cL_law 1591 = .ok (.iaload, 1) := by decide +kernel
theorem dL_law_1592 : decode cL_law 1592 = .ok (.aload_n 0, 1) := by decide +kernel
theorem dL_law_1593 : decode cL_law 1593 = .ok (.iload 4, 2) := by decide +kernel
theorem dL_law_1595 : decode cL_law 1595 = .ok (.iconst 3, 1) := by decide +kernel
theorem dL_law_1596 : decode cL_law 1596 = .ok (.iadd, 1) := by decide +kernel
theorem dL_law_1597 : decode cL_law 1597 = .ok (.iaload, 1) := by decide +kernel
theorem dL_law_1598 : decode cL_law 1598 = .ok (.aload_n 3, 1) := by decide +kernel
theorem dL_law_1599 : decode cL_law 1599 = .ok (.invokestatic 198, 3) := by decide +kernel
theorem dL_law_1602 : decode cL_law 1602 = .ok (.istore 5, 2) := by decide +kernel
theorem dL_law_1604 : decode cL_law 1604 = .ok (.aload_n 2, 1) := by decide +kernel
theorem dL_law_1605 : decode cL_law 1605 = .ok (.aload_n 0, 1) := by decide +kernel
theorem dL_law_1606 : decode cL_law 1606 = .ok (.iload 4, 2) := by decide +kernel
theorem dL_law_1608 : decode cL_law 1608 = .ok (.iconst 1, 1) := by decide +kernel
theorem dL_law_1609 : decode cL_law 1609 = .ok (.iadd, 1) := by decide +kernel
theorem dL_law_1610 : decode cL_law 1610 = .ok (.iaload, 1) := by decide +kernel
theorem dL_law_1611 : decode cL_law 1611 = .ok (.aload_n 0, 1) := by decide +kernel
theorem dL_law_1612 : decode cL_law 1612 = .ok (.iload 4, 2) := by decide +kernel
theorem dL_law_1614 : decode cL_law 1614 = .ok (.iconst 2, 1) := by decide +kernel
theorem dL_law_1615 : decode cL_law 1615 = .ok (.iadd, 1) := by decide +kernel
theorem dL_law_1616 : decode cL_law 1616 = .ok (.iaload, 1) := by decide +kernel
theorem dL_law_1617 : decode cL_law 1617 = .ok (.aload_n 0, 1) := by decide +kernel
theorem dL_law_1618 : decode cL_law 1618 = .ok (.iload 4, 2) := by decide +kernel
theorem dL_law_1620 : decode cL_law 1620 = .ok (.iconst 3, 1) := by decide +kernel
theorem dL_law_1621 : decode cL_law 1621 = .ok (.iadd, 1) := by decide +kernel
theorem dL_law_1622 : decode cL_law 1622 = .ok (.iaload, 1) := by decide +kernel
theorem dL_law_1623 : decode cL_law 1623 = .ok (.invokevirtual 200, 3) := by decide +kernel
theorem dL_law_1626 : decode cL_law 1626 = .ok (.istore 6, 2) := by decide +kernel
theorem dL_law_1628 : decode cL_law 1628 = .ok (.aload_n 2, 1) := by decide +kernel
theorem dL_law_1629 : decode cL_law 1629 = .ok (.invokevirtual 127, 3) := by decide +kernel
theorem dL_law_1632 : decode cL_law 1632 = .ok (.iload 5, 2) := by decide +kernel
theorem dL_law_1634 : decode cL_law 1634 = .ok (.if_icmp .eq 5, 3) := by decide +kernel
theorem dL_law_1637 : decode cL_law 1637 = .ok (.iconst 0, 1) := by decide +kernel
theorem dL_law_1638 : decode cL_law 1638 = .ok (.ireturn, 1) := by decide +kernel
theorem dL_law_1639 : decode cL_law 1639 = .ok (.iload 5, 2) := by decide +kernel
theorem dL_law_1641 : decode cL_law 1641 = .ok (.ifCond .ne 15, 3) := by decide +kernel
theorem dL_law_1644 : decode cL_law 1644 = .ok (.aload_n 3, 1) := by decide +kernel
theorem dL_law_1645 : decode cL_law 1645 = .ok (.iconst 0, 1) := by decide +kernel
theorem dL_law_1646 : decode cL_law 1646 = .ok (.laload, 1) := by decide +kernel
theorem dL_law_1647 : decode cL_law 1647 = .ok (.iload 6, 2) := by decide +kernel
theorem dL_law_1649 : decode cL_law 1649 = .ok (.i2l, 1) := by decide +kernel
theorem dL_law_1650 : decode cL_law 1650 = .ok (.lcmp, 1) := by decide +kernel
theorem dL_law_1651 : decode cL_law 1651 = .ok (.ifCond .eq 5, 3) := by decide +kernel
theorem dL_law_1654 : decode cL_law 1654 = .ok (.iconst 0, 1) := by decide +kernel
theorem dL_law_1655 : decode cL_law 1655 = .ok (.ireturn, 1) := by decide +kernel
theorem dL_law_1656 : decode cL_law 1656 = .ok (.goto 864, 3) := by decide +kernel
theorem dL_law_1659 : decode cL_law 1659 = .ok (.aload_n 1, 1) := by decide +kernel
theorem dL_law_1660 : decode cL_law 1660 = .ok (.invokevirtual 201, 3) := by decide +kernel
theorem dL_law_1663 : decode cL_law 1663 = .ok (.aload_n 2, 1) := by decide +kernel
theorem dL_law_1664 : decode cL_law 1664 = .ok (.invokevirtual 204, 3) := by decide +kernel
theorem dL_law_1667 : decode cL_law 1667 = .ok (.goto 853, 3) := by decide +kernel
theorem dL_law_1670 : decode cL_law 1670 = .ok (.aload_n 1, 1) := by decide +kernel
theorem dL_law_1671 : decode cL_law 1671 = .ok (.aload_n 0, 1) := by decide +kernel
theorem dL_law_1672 : decode cL_law 1672 = .ok (.iload 4, 2) := by decide +kernel
theorem dL_law_1674 : decode cL_law 1674 = .ok (.iconst 1, 1) := by decide +kernel
theorem dL_law_1675 : decode cL_law 1675 = .ok (.iadd, 1) := by decide +kernel
theorem dL_law_1676 : decode cL_law 1676 = .ok (.iaload, 1) := by decide +kernel
theorem dL_law_1677 : decode cL_law 1677 = .ok (.aload_n 3, 1) := by decide +kernel
theorem dL_law_1678 : decode cL_law 1678 = .ok (.invokestatic 205, 3) := by decide +kernel
theorem dL_law_1681 : decode cL_law 1681 = .ok (.istore 5, 2) := by decide +kernel
theorem dL_law_1683 : decode cL_law 1683 = .ok (.aload_n 2, 1) := by decide +kernel
theorem dL_law_1684 : decode cL_law 1684 = .ok (.aload_n 0, 1) := by decide +kernel
theorem dL_law_1685 : decode cL_law 1685 = .ok (.iload 4, 2) := by decide +kernel
theorem dL_law_1687 : decode cL_law 1687 = .ok (.iconst 1, 1) := by decide +kernel
theorem dL_law_1688 : decode cL_law 1688 = .ok (.iadd, 1) := by decide +kernel
theorem dL_law_1689 : decode cL_law 1689 = .ok (.iaload, 1) := by decide +kernel
theorem dL_law_1690 : decode cL_law 1690 = .ok (.invokevirtual 207, 3) := by decide +kernel
theorem dL_law_1693 : decode cL_law 1693 = .ok (.istore 6, 2) := by decide +kernel
theorem dL_law_1695 : decode cL_law 1695 = .ok (.aload_n 2, 1) := by decide +kernel
theorem dL_law_1696 : decode cL_law 1696 = .ok (.invokevirtual 127, 3) := by decide +kernel
theorem dL_law_1699 : decode cL_law 1699 = .ok (.iload 5, 2) := by decide +kernel
theorem dL_law_1701 : decode cL_law 1701 = .ok (.if_icmp .eq 5, 3) := by decide +kernel
theorem dL_law_1704 : decode cL_law 1704 = .ok (.iconst 0, 1) := by decide +kernel
theorem dL_law_1705 : decode cL_law 1705 = .ok (.ireturn, 1) := by decide +kernel
theorem dL_law_1706 : decode cL_law 1706 = .ok (.iload 5, 2) := by decide +kernel
theorem dL_law_1708 : decode cL_law 1708 = .ok (.ifCond .ne 15, 3) := by decide +kernel
theorem dL_law_1711 : decode cL_law 1711 = .ok (.aload_n 3, 1) := by decide +kernel
theorem dL_law_1712 : decode cL_law 1712 = .ok (.iconst 0, 1) := by decide +kernel
theorem dL_law_1713 : decode cL_law 1713 = .ok (.laload, 1) := by decide +kernel
theorem dL_law_1714 : decode cL_law 1714 = .ok (.iload 6, 2) := by decide +kernel
theorem dL_law_1716 : decode cL_law 1716 = .ok (.i2l, 1) := by decide +kernel
theorem dL_law_1717 : decode cL_law 1717 = .ok (.lcmp, 1) := by decide +kernel
theorem dL_law_1718 : decode cL_law 1718 = .ok (.ifCond .eq 5, 3) := by decide +kernel
theorem dL_law_1721 : decode cL_law 1721 = .ok (.iconst 0, 1) := by decide +kernel
theorem dL_law_1722 : decode cL_law 1722 = .ok (.ireturn, 1) := by decide +kernel
theorem dL_law_1723 : decode cL_law 1723 = .ok (.goto 797, 3) := by decide +kernel
theorem dL_law_1726 : decode cL_law 1726 = .ok (.aload_n 1, 1) := by decide +kernel
theorem dL_law_1727 : decode cL_law 1727 = .ok (.aload_n 0, 1) := by decide +kernel
theorem dL_law_1728 : decode cL_law 1728 = .ok (.iload 4, 2) := by decide +kernel
theorem dL_law_1730 : decode cL_law 1730 = .ok (.iconst 1, 1) := by decide +kernel
theorem dL_law_1731 : decode cL_law 1731 = .ok (.iadd, 1) := by decide +kernel
theorem dL_law_1732 : decode cL_law 1732 = .ok (.iaload, 1) := by decide +kernel
theorem dL_law_1733 : decode cL_law 1733 = .ok (.aload_n 3, 1) := by decide +kernel
theorem dL_law_1734 : decode cL_law 1734 = .ok (.invokestatic 208, 3) := by decide +kernel
theorem dL_law_1737 : decode cL_law 1737 = .ok (.istore 5, 2) := by decide +kernel
theorem dL_law_1739 : decode cL_law 1739 = .ok (.aload_n 2, 1) := by decide +kernel
theorem dL_law_1740 : decode cL_law 1740 = .ok (.aload_n 0, 1) := by decide +kernel
theorem dL_law_1741 : decode cL_law 1741 = .ok (.iload 4, 2) := by decide +kernel
theorem dL_law_1743 : decode cL_law 1743 = .ok (.iconst 1, 1) := by decide +kernel
theorem dL_law_1744 : decode cL_law 1744 = .ok (.iadd, 1) := by decide +kernel
theorem dL_law_1745 : decode cL_law 1745 = .ok (.iaload, 1) := by decide +kernel
theorem dL_law_1746 : decode cL_law 1746 = .ok (.invokevirtual 210, 3) := by decide +kernel
theorem dL_law_1749 : decode cL_law 1749 = .ok (.istore 6, 2) := by decide +kernel
theorem dL_law_1751 : decode cL_law 1751 = .ok (.aload_n 2, 1) := by decide +kernel
theorem dL_law_1752 : decode cL_law 1752 = .ok (.invokevirtual 127, 3) := by decide +kernel
theorem dL_law_1755 : decode cL_law 1755 = .ok (.iload 5, 2) := by decide +kernel
theorem dL_law_1757 : decode cL_law 1757 = .ok (.if_icmp .eq 5, 3) := by decide +kernel
theorem dL_law_1760 : decode cL_law 1760 = .ok (.iconst 0, 1) := by decide +kernel
theorem dL_law_1761 : decode cL_law 1761 = .ok (.ireturn, 1) := by decide +kernel
theorem dL_law_1762 : decode cL_law 1762 = .ok (.iload 5, 2) := by decide +kernel
theorem dL_law_1764 : decode cL_law 1764 = .ok (.ifCond .ne 15, 3) := by decide +kernel
theorem dL_law_1767 : decode cL_law 1767 = .ok (.aload_n 3, 1) := by decide +kernel
theorem dL_law_1768 : decode cL_law 1768 = .ok (.iconst 0, 1) := by decide +kernel
theorem dL_law_1769 : decode cL_law 1769 = .ok (.laload, 1) := by decide +kernel
theorem dL_law_1770 : decode cL_law 1770 = .ok (.iload 6, 2) := by decide +kernel
theorem dL_law_1772 : decode cL_law 1772 = .ok (.i2l, 1) := by decide +kernel
theorem dL_law_1773 : decode cL_law 1773 = .ok (.lcmp, 1) := by decide +kernel
theorem dL_law_1774 : decode cL_law 1774 = .ok (.ifCond .eq 5, 3) := by decide +kernel
theorem dL_law_1777 : decode cL_law 1777 = .ok (.iconst 0, 1) := by decide +kernel
theorem dL_law_1778 : decode cL_law 1778 = .ok (.ireturn, 1) := by decide +kernel
theorem dL_law_1779 : decode cL_law 1779 = .ok (.goto 741, 3) := by decide +kernel
theorem dL_law_1782 : decode cL_law 1782 = .ok (.aload_n 1, 1) := by decide +kernel
theorem dL_law_1783 : decode cL_law 1783 = .ok (.aload_n 0, 1) := by decide +kernel
theorem dL_law_1784 : decode cL_law 1784 = .ok (.iload 4, 2) := by decide +kernel
theorem dL_law_1786 : decode cL_law 1786 = .ok (.iconst 1, 1) := by decide +kernel
theorem dL_law_1787 : decode cL_law 1787 = .ok (.iadd, 1) := by decide +kernel
theorem dL_law_1788 : decode cL_law 1788 = .ok (.iaload, 1) := by decide +kernel
theorem dL_law_1789 : decode cL_law 1789 = .ok (.aload_n 3, 1) := by decide +kernel
theorem dL_law_1790 : decode cL_law 1790 = .ok (.invokestatic 211, 3) := by decide +kernel
theorem dL_law_1793 : decode cL_law 1793 = .ok (.istore 5, 2) := by decide +kernel
theorem dL_law_1795 : decode cL_law 1795 = .ok (.aload_n 2, 1) := by decide +kernel
theorem dL_law_1796 : decode cL_law 1796 = .ok (.aload_n 0, 1) := by decide +kernel
theorem dL_law_1797 : decode cL_law 1797 = .ok (.iload 4, 2) := by decide +kernel
theorem dL_law_1799 : decode cL_law 1799 = .ok (.iconst 1, 1) := by decide +kernel
theorem dL_law_1800 : decode cL_law 1800 = .ok (.iadd, 1) := by decide +kernel
theorem dL_law_1801 : decode cL_law 1801 = .ok (.iaload, 1) := by decide +kernel
theorem dL_law_1802 : decode cL_law 1802 = .ok (.invokevirtual 213, 3) := by decide +kernel
theorem dL_law_1805 : decode cL_law 1805 = .ok (.istore 6, 2) := by decide +kernel
theorem dL_law_1807 : decode cL_law 1807 = .ok (.aload_n 2, 1) := by decide +kernel
theorem dL_law_1808 : decode cL_law 1808 = .ok (.invokevirtual 127, 3) := by decide +kernel
theorem dL_law_1811 : decode cL_law 1811 = .ok (.iload 5, 2) := by decide +kernel
theorem dL_law_1813 : decode cL_law 1813 = .ok (.if_icmp .eq 5, 3) := by decide +kernel
theorem dL_law_1816 : decode cL_law 1816 = .ok (.iconst 0, 1) := by decide +kernel
theorem dL_law_1817 : decode cL_law 1817 = .ok (.ireturn, 1) := by decide +kernel
theorem dL_law_1818 : decode cL_law 1818 = .ok (.iload 5, 2) := by decide +kernel
theorem dL_law_1820 : decode cL_law 1820 = .ok (.ifCond .ne 15, 3) := by decide +kernel
theorem dL_law_1823 : decode cL_law 1823 = .ok (.aload_n 3, 1) := by decide +kernel
theorem dL_law_1824 : decode cL_law 1824 = .ok (.iconst 0, 1) := by decide +kernel
theorem dL_law_1825 : decode cL_law 1825 = .ok (.laload, 1) := by decide +kernel
theorem dL_law_1826 : decode cL_law 1826 = .ok (.iload 6, 2) := by decide +kernel
theorem dL_law_1828 : decode cL_law 1828 = .ok (.i2l, 1) := by decide +kernel
theorem dL_law_1829 : decode cL_law 1829 = .ok (.lcmp, 1) := by decide +kernel
theorem dL_law_1830 : decode cL_law 1830 = .ok (.ifCond .eq 5, 3) := by decide +kernel
theorem dL_law_1833 : decode cL_law 1833 = .ok (.iconst 0, 1) := by decide +kernel
theorem dL_law_1834 : decode cL_law 1834 = .ok (.ireturn, 1) := by decide +kernel
theorem dL_law_1835 : decode cL_law 1835 = .ok (.goto 685, 3) := by decide +kernel
theorem dL_law_1838 : decode cL_law 1838 = .ok (.aload_n 1, 1) := by decide +kernel
theorem dL_law_1839 : decode cL_law 1839 = .ok (.invokevirtual 214, 3) := by decide +kernel
theorem dL_law_1842 : decode cL_law 1842 = .ok (.aload_n 2, 1) := by decide +kernel
theorem dL_law_1843 : decode cL_law 1843 = .ok (.invokevirtual 217, 3) := by decide +kernel
theorem dL_law_1846 : decode cL_law 1846 = .ok (.if_icmp .eq 674, 3) := by decide +kernel
theorem dL_law_1849 : decode cL_law 1849 = .ok (.iconst 0, 1) := by decide +kernel
theorem dL_law_1850 : decode cL_law 1850 = .ok (.ireturn, 1) := by decide +kernel
theorem dL_law_1851 : decode cL_law 1851 = .ok (.aload_n 1, 1) := by decide +kernel
theorem dL_law_1852 : decode cL_law 1852 = .ok (.aload_n 0, 1) := by decide +kernel
theorem dL_law_1853 : decode cL_law 1853 = .ok (.iload 4, 2) := by decide +kernel
theorem dL_law_1855 : decode cL_law 1855 = .ok (.iconst 1, 1) := by decide +kernel
theorem dL_law_1856 : decode cL_law 1856 = .ok (.iadd, 1) := by decide +kernel
theorem dL_law_1857 : decode cL_law 1857 = .ok (.iaload, 1) := by decide +kernel
theorem dL_law_1858 : decode cL_law 1858 = .ok (.aload_n 0, 1) := by decide +kernel
theorem dL_law_1859 : decode cL_law 1859 = .ok (.iload 4, 2) := by decide +kernel
theorem dL_law_1861 : decode cL_law 1861 = .ok (.iconst 2, 1) := by decide +kernel
theorem dL_law_1862 : decode cL_law 1862 = .ok (.iadd, 1) := by decide +kernel
theorem dL_law_1863 : decode cL_law 1863 = .ok (.iaload, 1) := by decide +kernel
theorem dL_law_1864 : decode cL_law 1864 = .ok (.aload_n 0, 1) := by decide +kernel
theorem dL_law_1865 : decode cL_law 1865 = .ok (.iload 4, 2) := by decide +kernel
theorem dL_law_1867 : decode cL_law 1867 = .ok (.iconst 3, 1) := by decide +kernel
theorem dL_law_1868 : decode cL_law 1868 = .ok (.iadd, 1) := by decide +kernel
theorem dL_law_1869 : decode cL_law 1869 = .ok (.iaload, 1) := by decide +kernel
theorem dL_law_1870 : decode cL_law 1870 = .ok (.aload_n 3, 1) := by decide +kernel
theorem dL_law_1871 : decode cL_law 1871 = .ok (.invokestatic 218, 3) := by decide +kernel
theorem dL_law_1874 : decode cL_law 1874 = .ok (.istore 5, 2) := by decide +kernel
theorem dL_law_1876 : decode cL_law 1876 = .ok (.aload_n 2, 1) := by decide +kernel
theorem dL_law_1877 : decode cL_law 1877 = .ok (.aload_n 0, 1) := by decide +kernel
theorem dL_law_1878 : decode cL_law 1878 = .ok (.iload 4, 2) := by decide +kernel
theorem dL_law_1880 : decode cL_law 1880 = .ok (.iconst 1, 1) := by decide +kernel
theorem dL_law_1881 : decode cL_law 1881 = .ok (.iadd, 1) := by decide +kernel
theorem dL_law_1882 : decode cL_law 1882 = .ok (.iaload, 1) := by decide +kernel
theorem dL_law_1883 : decode cL_law 1883 = .ok (.aload_n 0, 1) := by decide +kernel
theorem dL_law_1884 : decode cL_law 1884 = .ok (.iload 4, 2) := by decide +kernel
theorem dL_law_1886 : decode cL_law 1886 = .ok (.iconst 2, 1) := by decide +kernel
theorem dL_law_1887 : decode cL_law 1887 = .ok (.iadd, 1) := by decide +kernel
theorem dL_law_1888 : decode cL_law 1888 = .ok (.iaload, 1) := by decide +kernel
theorem dL_law_1889 : decode cL_law 1889 = .ok (.aload_n 0, 1) := by decide +kernel
theorem dL_law_1890 : decode cL_law 1890 = .ok (.iload 4, 2) := by decide +kernel
theorem dL_law_1892 : decode cL_law 1892 = .ok (.iconst 3, 1) := by decide +kernel
theorem dL_law_1893 : decode cL_law 1893 = .ok (.iadd, 1) := by decide +kernel
theorem dL_law_1894 : decode cL_law 1894 = .ok (.iaload, 1) := by decide +kernel
theorem dL_law_1895 : decode cL_law 1895 = .ok (.invokevirtual 220, 3) := by decide +kernel
theorem dL_law_1898 : decode cL_law 1898 = .ok (.istore 6, 2) := by decide +kernel
theorem dL_law_1900 : decode cL_law 1900 = .ok (.aload_n 2, 1) := by decide +kernel
theorem dL_law_1901 : decode cL_law 1901 = .ok (.invokevirtual 127, 3) := by decide +kernel
theorem dL_law_1904 : decode cL_law 1904 = .ok (.iload 5, 2) := by decide +kernel
theorem dL_law_1906 : decode cL_law 1906 = .ok (.if_icmp .eq 5, 3) := by decide +kernel
theorem dL_law_1909 : decode cL_law 1909 = .ok (.iconst 0, 1) := by decide +kernel
theorem dL_law_1910 : decode cL_law 1910 = .ok (.ireturn, 1) := by decide +kernel
theorem dL_law_1911 : decode cL_law 1911 = .ok (.iload 5, 2) := by decide +kernel
theorem dL_law_1913 : decode cL_law 1913 = .ok (.ifCond .ne 15, 3) := by decide +kernel
theorem dL_law_1916 : decode cL_law 1916 = .ok (.aload_n 3, 1) := by decide +kernel
theorem dL_law_1917 : decode cL_law 1917 = .ok (.iconst 0, 1) := by decide +kernel
theorem dL_law_1918 : decode cL_law 1918 = .ok (.laload, 1) := by decide +kernel
theorem dL_law_1919 : decode cL_law 1919 = .ok (.iload 6, 2) := by decide +kernel
theorem dL_law_1921 : decode cL_law 1921 = .ok (.i2l, 1) := by decide +kernel
theorem dL_law_1922 : decode cL_law 1922 = .ok (.lcmp, 1) := by decide +kernel
theorem dL_law_1923 : decode cL_law 1923 = .ok (.ifCond .eq 5, 3) := by decide +kernel
theorem dL_law_1926 : decode cL_law 1926 = .ok (.iconst 0, 1) := by decide +kernel
theorem dL_law_1927 : decode cL_law 1927 = .ok (.ireturn, 1) := by decide +kernel
theorem dL_law_1928 : decode cL_law 1928 = .ok (.goto 592, 3) := by decide +kernel
theorem dL_law_1931 : decode cL_law 1931 = .ok (.aload_n 1, 1) := by decide +kernel
