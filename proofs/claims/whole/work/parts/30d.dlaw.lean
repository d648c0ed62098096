theorem dw_1353 : decode code 1353 = .ok (.aload_n 2, 1) := by decide +kernel
theorem dw_1354 : decode code 1354 = .ok (.aload_n 0, 1) := by decide +kernel
theorem dw_1355 : decode code 1355 = .ok (.iload 4, 2) := by decide +kernel
theorem dw_1357 : decode code 1357 = .ok (.iconst 1, 1) := by decide +kernel
theorem dw_1358 : decode code 1358 = .ok (.iadd, 1) := by decide +kernel
theorem dw_1359 : decode code 1359 = .ok (.iaload, 1) := by decide +kernel
theorem dw_1360 : decode code 1360 = .ok (.invokevirtual 182, 3) := by decide +kernel
theorem dw_1363 : decode code 1363 = .ok (.istore 6, 2) := by decide +kernel
theorem dw_1365 : decode code 1365 = .ok (.aload_n 2, 1) := by decide +kernel
theorem dw_1366 : decode code 1366 = .ok (.invokevirtual 98, 3) := by decide +kernel
theorem dw_1369 : decode code 1369 = .ok (.iload 5, 2) := by decide +kernel
theorem dw_1371 : decode code 1371 = .ok (.if_icmp .eq 5, 3) := by decide +kernel
theorem dw_1374 : decode code 1374 = .ok (.iconst 0, 1) := by decide +kernel
theorem dw_1375 : decode code 1375 = .ok (.ireturn, 1) := by decide +kernel
theorem dw_1376 : decode code 1376 = .ok (.iload 5, 2) := by decide +kernel
theorem dw_1378 : decode code 1378 = .ok (.ifCond .ne 15, 3) := by decide +kernel
theorem dw_1381 : decode code 1381 = .ok (.aload_n 3, 1) := by decide +kernel
theorem dw_1382 : decode code 1382 = .ok (.iconst 0, 1) := by decide +kernel
theorem dw_1383 : decode code 1383 = .ok (.laload, 1) := by decide +kernel
theorem dw_1384 : decode code 1384 = .ok (.iload 6, 2) := by decide +kernel
theorem dw_1386 : decode code 1386 = .ok (.i2l, 1) := by decide +kernel
theorem dw_1387 : decode code 1387 = .ok (.lcmp, 1) := by decide +kernel
theorem dw_1388 : decode code 1388 = .ok (.ifCond .eq 5, 3) := by decide +kernel
theorem dw_1391 : decode code 1391 = .ok (.iconst 0, 1) := by decide +kernel
theorem dw_1392 : decode code 1392 = .ok (.ireturn, 1) := by decide +kernel
theorem dw_1393 : decode code 1393 = .ok (.goto 308, 3) := by decide +kernel
theorem dw_1396 : decode code 1396 = .ok (.aload_n 1, 1) := by decide +kernel
theorem dw_1397 : decode code 1397 = .ok (.aload_n 0, 1) := by decide +kernel
theorem dw_1398 : decode code 1398 = .ok (.iload 4, 2) := by decide +kernel
theorem dw_1400 : decode code 1400 = .ok (.iconst 1, 1) := by decide +kernel
theorem dw_1401 : decode code 1401 = .ok (.iadd, 1) := by decide +kernel
theorem dw_1402 : decode code 1402 = .ok (.iaload, 1) := by decide +kernel
theorem dw_1403 : decode code 1403 = .ok (.aload_n 3, 1) := by decide +kernel
theorem dw_1404 : decode code 1404 = .ok (.invokestatic 183, 3) := by decide +kernel
theorem dw_1407 : decode code 1407 = .ok (.istore 5, 2) := by decide +kernel
theorem dw_1409 : decode code 1409 = .ok (.aload_n 2, 1) := by decide +kernel
theorem dw_1410 : decode code 1410 = .ok (.aload_n 0, 1) := by decide +kernel
theorem dw_1411 : decode code 1411 = .ok (.iload 4, 2) := by decide +kernel
theorem dw_1413 : decode code 1413 = .ok (.iconst 1, 1) := by decide +kernel
theorem dw_1414 : decode code 1414 = .ok (.iadd, 1) := by decide +kernel
theorem dw_1415 : decode code 1415 = .ok (.iaload, 1) := by decide +kernel
theorem dw_1416 : decode code 1416 = .ok (.invokevirtual 185, 3) := by decide +kernel
theorem dw_1419 : decode code 1419 = .ok (.istore 6, 2) := by decide +kernel
theorem dw_1421 : decode code 1421 = .ok (.aload_n 2, 1) := by decide +kernel
theorem dw_1422 : decode code 1422 = .ok (.invokevirtual 98, 3) := by decide +kernel
theorem dw_1425 : decode code 1425 = .ok (.iload 5, 2) := by decide +kernel
theorem dw_1427 : decode code 1427 = .ok (.if_icmp .eq 5, 3) := by decide +kernel
theorem dw_1430 : decode code 1430 = .ok (.iconst 0, 1) := by decide +kernel
theorem dw_1431 : decode code 1431 = .ok (.ireturn, 1) := by decide +kernel
theorem dw_1432 : decode code 1432 = .ok (.iload 5, 2) := by decide +kernel
theorem dw_1434 : decode code 1434 = .ok (.ifCond .ne 15, 3) := by decide +kernel
theorem dw_1437 : decode code 1437 = .ok (.aload_n 3, 1) := by decide +kernel
theorem dw_1438 : decode code 1438 = .ok (.iconst 0, 1) := by decide +kernel
theorem dw_1439 : decode code 1439 = .ok (.laload, 1) := by decide +kernel
theorem dw_1440 : decode code 1440 = .ok (.iload 6, 2) := by decide +kernel
theorem dw_1442 : decode code 1442 = .ok (.i2l, 1) := by decide +kernel
theorem dw_1443 : decode code 1443 = .ok (.lcmp, 1) := by decide +kernel
theorem dw_1444 : decode code 1444 = .ok (.ifCond .eq 5, 3) := by decide +kernel
theorem dw_1447 : decode code 1447 = .ok (.iconst 0, 1) := by decide +kernel
theorem dw_1448 : decode code 1448 = .ok (.ireturn, 1) := by decide +kernel
theorem dw_1449 : decode code 1449 = .ok (.goto 252, 3) := by decide +kernel
theorem dw_1452 : decode code 1452 = .ok (.aload_n 1, 1) := by decide +kernel
theorem dw_1453 : decode code 1453 = .ok (.aload_n 0, 1) := by decide +kernel
theorem dw_1454 : decode code 1454 = .ok (.iload 4, 2) := by decide +kernel
theorem dw_1456 : decode code 1456 = .ok (.iconst 1, 1) := by decide +kernel
theorem dw_1457 : decode code 1457 = .ok (.iadd, 1) := by decide +kernel
theorem dw_1458 : decode code 1458 = .ok (.iaload, 1) := by decide +kernel
theorem dw_1459 : decode code 1459 = .ok (.aload_n 3, 1) := by decide +kernel
theorem dw_1460 : decode code 1460 = .ok (.invokestatic 186, 3) := by decide +kernel
theorem dw_1463 : decode code 1463 = .ok (.istore 5, 2) := by decide +kernel
theorem dw_1465 : decode code 1465 = .ok (.aload_n 2, 1) := by decide +kernel
theorem dw_1466 : decode code 1466 = .ok (.aload_n 0, 1) := by decide +kernel
theorem dw_1467 : decode code 1467 = .ok (.iload 4, 2) := by decide +kernel
theorem dw_1469 : decode code 1469 = .ok (.iconst 1, 1) := by decide +kernel
theorem dw_1470 : decode code 1470 = .ok (.iadd, 1) := by decide +kernel
theorem dw_1471 : decode code 1471 = .ok (.iaload, 1) := by decide +kernel
theorem dw_1472 : decode code 1472 = .ok (.invokevirtual 188, 3) := by decide +kernel
theorem dw_1475 : decode code 1475 = .ok (.istore 6, 2) := by decide +kernel
theorem dw_1477 : decode code 1477 = .ok (.aload_n 2, 1) := by decide +kernel
theorem dw_1478 : decode code 1478 = .ok (.invokevirtual 98, 3) := by decide +kernel
theorem dw_1481 : decode code 1481 = .ok (.iload 5, 2) := by decide +kernel
theorem dw_1483 : decode code 1483 = .ok (.if_icmp .eq 5, 3) := by decide +kernel
theorem dw_1486 : decode code 1486 = .ok (.iconst 0, 1) := by decide +kernel
theorem dw_1487 : decode code 1487 = .ok (.ireturn, 1) := by decide +kernel
theorem dw_1488 : decode code 1488 = .ok (.iload 5, 2) := by decide +kernel
theorem dw_1490 : decode code 1490 = .ok (.ifCond .ne 15, 3) := by decide +kernel
theorem dw_1493 : decode code 1493 = .ok (.aload_n 3, 1) := by decide +kernel
theorem dw_1494 : decode code 1494 = .ok (.iconst 0, 1) := by decide +kernel
theorem dw_1495 : decode code 1495 = .ok (.laload, 1) := by decide +kernel
theorem dw_1496 : decode code 1496 = .ok (.iload 6, 2) := by decide +kernel
theorem dw_1498 : decode code 1498 = .ok (.i2l, 1) := by decide +kernel
theorem dw_1499 : decode code 1499 = .ok (.lcmp, 1) := by decide +kernel
theorem dw_1500 : decode code 1500 = .ok (.ifCond .eq 5, 3) := by decide +kernel
theorem dw_1503 : decode code 1503 = .ok (.iconst 0, 1) := by decide +kernel
theorem dw_1504 : decode code 1504 = .ok (.ireturn, 1) := by decide +kernel
theorem dw_1505 : decode code 1505 = .ok (.goto 196, 3) := by decide +kernel
theorem dw_1508 : decode code 1508 = .ok (.aload_n 1, 1) := by decide +kernel
theorem dw_1509 : decode code 1509 = .ok (.aload_n 0, 1) := by decide +kernel
theorem dw_1510 : decode code 1510 = .ok (.iload 4, 2) := by decide +kernel
theorem dw_1512 : decode code 1512 = .ok (.iconst 1, 1) := by decide +kernel
theorem dw_1513 : decode code 1513 = .ok (.iadd, 1) := by decide +kernel
theorem dw_1514 : decode code 1514 = .ok (.iaload, 1) := by decide +kernel
theorem dw_1515 : decode code 1515 = .ok (.aload_n 3, 1) := by decide +kernel
theorem dw_1516 : decode code 1516 = .ok (.invokestatic 189, 3) := by decide +kernel
theorem dw_1519 : decode code 1519 = .ok (.istore 5, 2) := by decide +kernel
theorem dw_1521 : decode code 1521 = .ok (.aload_n 2, 1) := by decide +kernel
theorem dw_1522 : decode code 1522 = .ok (.aload_n 0, 1) := by decide +kernel
theorem dw_1523 : decode code 1523 = .ok (.iload 4, 2) := by decide +kernel
theorem dw_1525 : decode code 1525 = .ok (.iconst 1, 1) := by decide +kernel
theorem dw_1526 : decode code 1526 = .ok (.iadd, 1) := by decide +kernel
theorem dw_1527 : decode code 1527 = .ok (.iaload, 1) := by decide +kernel
theorem dw_1528 : decode code 1528 = .ok (.invokevirtual 191, 3) := by decide +kernel
theorem dw_1531 : decode code 1531 = .ok (.istore 6, 2) := by decide +kernel
theorem dw_1533 : decode code 1533 = .ok (.aload_n 2, 1) := by decide +kernel
theorem dw_1534 : decode code 1534 = .ok (.invokevirtual 98, 3) := by decide +kernel
theorem dw_1537 : decode code 1537 = .ok (.iload 5, 2) := by decide +kernel
theorem dw_1539 : decode code 1539 = .ok (.if_icmp .eq 5, 3) := by decide +kernel
theorem dw_1542 : decode code 1542 = .ok (.iconst 0, 1) := by decide +kernel
theorem dw_1543 : decode code 1543 = .ok (.ireturn, 1) := by decide +kernel
theorem dw_1544 : decode code 1544 = .ok (.iload 5, 2) := by decide +kernel
theorem dw_1546 : decode code 1546 = .ok (.ifCond .ne 15, 3) := by decide +kernel
theorem dw_1549 : decode code 1549 = .ok (.aload_n 3, 1) := by decide +kernel
theorem dw_1550 : decode code 1550 = .ok (.iconst 0, 1) := by decide +kernel
theorem dw_1551 : decode code 1551 = .ok (.laload, 1) := by decide +kernel
theorem dw_1552 : decode code 1552 = .ok (.iload 6, 2) := by decide +kernel
theorem dw_1554 : decode code 1554 = .ok (.i2l, 1) := by decide +kernel
theorem dw_1555 : decode code 1555 = .ok (.lcmp, 1) := by decide +kernel
theorem dw_1556 : decode code 1556 = .ok (.ifCond .eq 5, 3) := by decide +kernel
theorem dw_1559 : decode code 1559 = .ok (.iconst 0, 1) := by decide +kernel
theorem dw_1560 : decode code 1560 = .ok (.ireturn, 1) := by decide +kernel
theorem dw_1561 : decode code 1561 = .ok (.goto 140, 3) := by decide +kernel
theorem dw_1564 : decode code 1564 = .ok (.aload_n 1, 1) := by decide +kernel
theorem dw_1565 : decode code 1565 = .ok (.aload_n 0, 1) := by decide +kernel
theorem dw_1566 : decode code 1566 = .ok (.iload 4, 2) := by decide +kernel
theorem dw_1568 : decode code 1568 = .ok (.iconst 1, 1) := by decide +kernel
theorem dw_1569 : decode code 1569 = .ok (.iadd, 1) := by decide +kernel
theorem dw_1570 : decode code 1570 = .ok (.iaload, 1) := by decide +kernel
theorem dw_1571 : decode code 1571 = .ok (.aload_n 3, 1) := by decide +kernel
theorem dw_1572 : decode code 1572 = .ok (.invokestatic 192, 3) := by decide +kernel
theorem dw_1575 : decode code 1575 = .ok (.istore 5, 2) := by decide +kernel
theorem dw_1577 : decode code 1577 = .ok (.aload_n 2, 1) := by decide +kernel
theorem dw_1578 : decode code 1578 = .ok (.aload_n 0, 1) := by decide +kernel
theorem dw_1579 : decode code 1579 = .ok (.iload 4, 2) := by decide +kernel
theorem dw_1581 : decode code 1581 = .ok (.iconst 1, 1) := by decide +kernel
theorem dw_1582 : decode code 1582 = .ok (.iadd, 1) := by decide +kernel
theorem dw_1583 : decode code 1583 = .ok (.iaload, 1) := by decide +kernel
theorem dw_1584 : decode code 1584 = .ok (.invokevirtual 194, 3) := by decide +kernel
theorem dw_1587 : decode code 1587 = .ok (.istore 6, 2) := by decide +kernel
theorem dw_1589 : decode code 1589 = .ok (.aload_n 2, 1) := by decide +kernel
theorem dw_1590 : decode code 1590 = .ok (.invokevirtual 98, 3) := by decide +kernel
theorem dw_1593 : decode code 1593 = .ok (.iload 5, 2) := by decide +kernel
theorem dw_1595 : decode code 1595 = .ok (.if_icmp .eq 5, 3) := by decide +kernel
theorem dw_1598 : decode code 1598 = .ok (.iconst 0, 1) := by decide +kernel
theorem dw_1599 : decode code 1599 = .ok (.ireturn, 1) := by decide +kernel
theorem dw_1600 : decode code 1600 = .ok (.iload 5, 2) := by decide +kernel
theorem dw_1602 : decode code 1602 = .ok (.ifCond .ne 15, 3) := by decide +kernel
theorem dw_1605 : decode code 1605 = .ok (.aload_n 3, 1) := by decide +kernel
theorem dw_1606 : decode code 1606 = .ok (.iconst 0, 1) := by decide +kernel
theorem dw_1607 : decode code 1607 = .ok (.laload, 1) := by decide +kernel
theorem dw_1608 : decode code 1608 = .ok (.iload 6, 2) := by decide +kernel
theorem dw_1610 : decode code 1610 = .ok (.i2l, 1) := by decide +kernel
theorem dw_1611 : decode code 1611 = .ok (.lcmp, 1) := by decide +kernel
theorem dw_1612 : decode code 1612 = .ok (.ifCond .eq 5, 3) := by decide +kernel
theorem dw_1615 : decode code 1615 = .ok (.iconst 0, 1) := by decide +kernel
theorem dw_1616 : decode code 1616 = .ok (.ireturn, 1) := by decide +kernel
theorem dw_1617 : decode code 1617 = .ok (.goto 84, 3) := by decide +kernel
theorem dw_1620 : decode code 1620 = .ok (.aload_n 1, 1) := by decide +kernel
theorem dw_1621 : decode code 1621 = .ok (.aload_n 0, 1) := by decide +kernel
theorem dw_1622 : decode code 1622 = .ok (.iload 4, 2) := by decide +kernel
theorem dw_1624 : decode code 1624 = .ok (.iconst 1, 1) := by decide +kernel
theorem dw_1625 : decode code 1625 = .ok (.iadd, 1) := by decide +kernel
theorem dw_1626 : decode code 1626 = .ok (.iaload, 1) := by decide +kernel
theorem dw_1627 : decode code 1627 = .ok (.aload_n 0, 1) := by decide +kernel
theorem dw_1628 : decode code 1628 = .ok (.iload 4, 2) := by decide +kernel
theorem dw_1630 : decode code 1630 = .ok (.iconst 2, 1) := by decide +kernel
theorem dw_1631 : decode code 1631 = .ok (.iadd, 1) := by decide +kernel
theorem dw_1632 : decode code 1632 = .ok (.iaload, 1) := by decide +kernel
theorem dw_1633 : decode code 1633 = .ok (.aload_n 3, 1) := by decide +kernel
theorem dw_1634 : decode code 1634 = .ok (.invokestatic 195, 3) := by decide +kernel
theorem dw_1637 : decode code 1637 = .ok (.istore 5, 2) := by decide +kernel
theorem dw_1639 : decode code 1639 = .ok (.aload_n 2, 1) := by decide +kernel
theorem dw_1640 : decode code 1640 = .ok (.aload_n 0, 1) := by decide +kernel
theorem dw_1641 : decode code 1641 = .ok (.iload 4, 2) := by decide +kernel
theorem dw_1643 : decode code 1643 = .ok (.iconst 1, 1) := by decide +kernel
theorem dw_1644 : decode code 1644 = .ok (.iadd, 1) := by decide +kernel
theorem dw_1645 : decode code 1645 = .ok (.iaload, 1) := by decide +kernel
theorem dw_1646 : decode code 1646 = .ok (.aload_n 0, 1) := by decide +kernel
theorem dw_1647 : decode code 1647 = .ok (.iload 4, 2) := by decide +kernel
theorem dw_1649 : decode code 1649 = .ok (.iconst 2, 1) := by decide +kernel
theorem dw_1650 : decode code 1650 = .ok (.iadd, 1) := by decide +kernel
theorem dw_1651 : decode code 1651 = .ok (.iaload, 1) := by decide +kernel
theorem dw_1652 : decode code 1652 = .ok (.invokevirtual 197, 3) := by decide +kernel
theorem dw_1655 : decode code 1655 = .ok (.istore 6, 2) := by decide +kernel
theorem dw_1657 : decode code 1657 = .ok (.aload_n 2, 1) := by decide +kernel
theorem dw_1658 : decode code 1658 = .ok (.invokevirtual 98, 3) := by decide +kernel
theorem dw_1661 : decode code 1661 = .ok (.iload 5, 2) := by decide +kernel
theorem dw_1663 : decode code 1663 = .ok (.if_icmp .eq 5, 3) := by decide +kernel
theorem dw_1666 : decode code 1666 = .ok (.iconst 0, 1) := by decide +kernel
theorem dw_1667 : decode code 1667 = .ok (.ireturn, 1) := by decide +kernel
theorem dw_1668 : decode code 1668 = .ok (.iload 5, 2) := by decide +kernel
theorem dw_1670 : decode code 1670 = .ok (.ifCond .ne 15, 3) := by decide +kernel
theorem dw_1673 : decode code 1673 = .ok (.aload_n 3, 1) := by decide +kernel
theorem dw_1674 : decode code 1674 = .ok (.iconst 0, 1) := by decide +kernel
theorem dw_1675 : decode code 1675 = .ok (.laload, 1) := by decide +kernel
theorem dw_1676 : decode code 1676 = .ok (.iload 6, 2) := by decide +kernel
theorem dw_1678 : decode code 1678 = .ok (.i2l, 1) := by decide +kernel
theorem dw_1679 : decode code 1679 = .ok (.lcmp, 1) := by decide +kernel
theorem dw_1680 : decode code 1680 = .ok (.ifCond .eq 5, 3) := by decide +kernel
theorem dw_1683 : decode code 1683 = .ok (.iconst 0, 1) := by decide +kernel
theorem dw_1684 : decode code 1684 = .ok (.ireturn, 1) := by decide +kernel
theorem dw_1685 : decode code 1685 = .ok (.goto 16, 3) := by decide +kernel
theorem dw_1688 : decode code 1688 = .ok (.aload_n 1, 1) := by decide +kernel
theorem dw_1689 : decode code 1689 = .ok (.invokevirtual 198, 3) := by decide +kernel
theorem dw_1692 : decode code 1692 = .ok (.aload_n 2, 1) := by decide +kernel
theorem dw_1693 : decode code 1693 = .ok (.invokevirtual 201, 3) := by decide +kernel
theorem dw_1696 : decode code 1696 = .ok (.if_icmp .eq 5, 3) := by decide +kernel
theorem dw_1699 : decode code 1699 = .ok (.iconst 0, 1) := by decide +kernel
theorem dw_1700 : decode code 1700 = .ok (.ireturn, 1) := by decide +kernel
theorem dw_1701 : decode code 1701 = .ok (.iinc 4 5, 3) := by decide +kernel
theorem dw_1704 : decode code 1704 = .ok (.goto (-1681), 3) := by decide +kernel
theorem dw_1707 : decode code 1707 = .ok (.iconst 1, 1) := by decide +kernel
theorem dw_1708 : decode code 1708 = .ok (.ireturn, 1) := by decide +kernel
