theorem dL_law_1395 : decode cL_law 1395 = .ok (.iastore, 1) := by decide +kernel
theorem dL_law_1396 : decode cL_law 1396 = .ok (.invokestatic 257, 3) := by decide +kernel
theorem dL_law_1399 : decode cL_law 1399 = .ok (.sipush (-1002), 3) := by decide +kernel
theorem dL_law_1402 : decode cL_law 1402 = .ok (.if_icmp .ne 187, 3) := by decide +kernel
theorem dL_law_1405 : decode cL_law 1405 = .ok (.aload_n 1, 1) := by decide +kernel
theorem dL_law_1406 : decode cL_law 1406 = .ok (.bipush 6, 2) := by decide +kernel
theorem dL_law_1408 : decode cL_law 1408 = .ok (.newarray .int, 2) := by decide +kernel
theorem dL_law_1410 : decode cL_law 1410 = .ok (.dup, 1) := by decide +kernel
theorem dL_law_1411 : decode cL_law 1411 = .ok (.iconst 0, 1) := by decide +kernel
theorem dL_law_1412 : decode cL_law 1412 = .ok (.sipush 999, 3) := by decide +kernel
theorem dL_law_1415 : decode cL_law 1415 = .ok (.iastore, 1) := by decide +kernel
theorem dL_law_1416 : decode cL_law 1416 = .ok (.dup, 1) := by decide +kernel
theorem dL_law_1417 : decode cL_law 1417 = .ok (.iconst 1, 1) := by decide +kernel
theorem dL_law_1418 : decode cL_law 1418 = .ok (.iconst 1, 1) := by decide +kernel
theorem dL_law_1419 : decode cL_law 1419 = .ok (.iastore, 1) := by decide +kernel
theorem dL_law_1420 : decode cL_law 1420 = .ok (.dup, 1) := by decide +kernel
theorem dL_law_1421 : decode cL_law 1421 = .ok (.iconst 2, 1) := by decide +kernel
theorem dL_law_1422 : decode cL_law 1422 = .ok (.iconst 1, 1) := by decide +kernel
theorem dL_law_1423 : decode cL_law 1423 = .ok (.iastore, 1) := by decide +kernel
theorem dL_law_1424 : decode cL_law 1424 = .ok (.dup, 1) := by decide +kernel
theorem dL_law_1425 : decode cL_law 1425 = .ok (.iconst 3, 1) := by decide +kernel
theorem dL_law_1426 : decode cL_law 1426 = .ok (.iconst 1, 1) := by decide +kernel
theorem dL_law_1427 : decode cL_law 1427 = .ok (.iastore, 1) := by decide +kernel
theorem dL_law_1428 : decode cL_law 1428 = .ok (.dup, 1) := by decide +kernel
theorem dL_law_1429 : decode cL_law 1429 = .ok (.iconst 4, 1) := by decide +kernel
theorem dL_law_1430 : decode cL_law 1430 = .ok (.iconst 0, 1) := by decide +kernel
theorem dL_law_1431 : decode cL_law 1431 = .ok (.iastore, 1) := by decide +kernel
theorem dL_law_1432 : decode cL_law 1432 = .ok (.dup, 1) := by decide +kernel
theorem dL_law_1433 : decode cL_law 1433 = .ok (.iconst 5, 1) := by decide +kernel
theorem dL_law_1434 : decode cL_law 1434 = .ok (.sipush 256, 3) := by decide +kernel
theorem dL_law_1437 : decode cL_law 1437 = .ok (.iastore, 1) := by decide +kernel
theorem dL_law_1438 : decode cL_law 1438 = .ok (.invokestatic 257, 3) := by decide +kernel
theorem dL_law_1441 : decode cL_law 1441 = .ok (.sipush (-1002), 3) := by decide +kernel
theorem dL_law_1444 : decode cL_law 1444 = .ok (.if_icmp .ne 145, 3) := by decide +kernel
theorem dL_law_1447 : decode cL_law 1447 = .ok (.aload_n 1, 1) := by decide +kernel
theorem dL_law_1448 : decode cL_law 1448 = .ok (.iconst 4, 1) := by decide +kernel
theorem dL_law_1449 : decode cL_law 1449 = .ok (.newarray .int, 2) := by decide +kernel
theorem dL_law_1451 : decode cL_law 1451 = .ok (.dup, 1) := by decide +kernel
theorem dL_law_1452 : decode cL_law 1452 = .ok (.iconst 0, 1) := by decide +kernel
theorem dL_law_1453 : decode cL_law 1453 = .ok (.iload 5, 2) := by decide +kernel
theorem dL_law_1455 : decode cL_law 1455 = .ok (.iastore, 1) := by decide +kernel
theorem dL_law_1456 : decode cL_law 1456 = .ok (.dup, 1) := by decide +kernel
theorem dL_law_1457 : decode cL_law 1457 = .ok (.iconst 1, 1) := by decide +kernel
theorem dL_law_1458 : decode cL_law 1458 = .ok (.iconst 0, 1) := by decide +kernel
theorem dL_law_1459 : decode cL_law 1459 = .ok (.iastore, 1) := by decide +kernel
theorem dL_law_1460 : decode cL_law 1460 = .ok (.dup, 1) := by decide +kernel
theorem dL_law_1461 : decode cL_law 1461 = .ok (.iconst 2, 1) := by decide +kernel
theorem dL_law_1462 : decode cL_law 1462 = .ok (.iconst 0, 1) := by decide +kernel
theorem dL_law_1463 : decode cL_law 1463 = .ok (.iastore, 1) := by decide +kernel
theorem dL_law_1464 : decode cL_law 1464 = .ok (.dup, 1) := by decide +kernel
theorem dL_law_1465 : decode cL_law 1465 = .ok (.iconst 3, 1) := by decide +kernel
theorem dL_law_1466 : decode cL_law 1466 = .ok (.iconst 0, 1) := by decide +kernel
theorem dL_law_1467 : decode cL_law 1467 = .ok (.iastore, 1) := by decide +kernel
theorem dL_law_1468 : decode cL_law 1468 = .ok (.invokestatic 257, 3) := by decide +kernel
theorem dL_law_1471 : decode cL_law 1471 = .ok (.sipush (-1001), 3) := by decide +kernel
theorem dL_law_1474 : decode cL_law 1474 = .ok (.if_icmp .ne 115, 3) := by decide +kernel
theorem dL_law_1477 : decode cL_law 1477 = .ok (.iload 5, 2) := by decide +kernel
theorem dL_law_1479 : decode cL_law 1479 = .ok (.ifCond .le 32, 3) := by decide +kernel
theorem dL_law_1482 : decode cL_law 1482 = .ok (.aload_n 1, 1) := by decide +kernel
theorem dL_law_1483 : decode cL_law 1483 = .ok (.iconst 4, 1) := by decide +kernel
theorem dL_law_1484 : decode cL_law 1484 = .ok (.newarray .int, 2) := by decide +kernel
theorem dL_law_1486 : decode cL_law 1486 = .ok (.dup, 1) := by decide +kernel
theorem dL_law_1487 : decode cL_law 1487 = .ok (.iconst 0, 1) := by decide +kernel
theorem dL_law_1488 : decode cL_law 1488 = .ok (.iconst 0, 1) := by decide +kernel
theorem dL_law_1489 : decode cL_law 1489 = .ok (.iastore, 1) := by decide +kernel
theorem dL_law_1490 : decode cL_law 1490 = .ok (.dup, 1) := by decide +kernel
theorem dL_law_1491 : decode cL_law 1491 = .ok (.iconst 1, 1) := by decide +kernel
theorem dL_law_1492 : decode cL_law 1492 = .ok (.iconst 0, 1) := by decide +kernel
theorem dL_law_1493 : decode cL_law 1493 = .ok (.iastore, 1) := by decide +kernel
theorem dL_law_1494 : decode cL_law 1494 = .ok (.dup, 1) := by decide +kernel
theorem dL_law_1495 : decode cL_law 1495 = .ok (.iconst 2, 1) := by decide +kernel
theorem dL_law_1496 : decode cL_law 1496 = .ok (.iconst 1, 1) := by decide +kernel
theorem dL_law_1497 : decode cL_law 1497 = .ok (.iastore, 1) := by decide +kernel
theorem dL_law_1498 : decode cL_law 1498 = .ok (.dup, 1) := by decide +kernel
theorem dL_law_1499 : decode cL_law 1499 = .ok (.iconst 3, 1) := by decide +kernel
theorem dL_law_1500 : decode cL_law 1500 = .ok (.iconst 0, 1) := by decide +kernel
theorem dL_law_1501 : decode cL_law 1501 = .ok (.iastore, 1) := by decide +kernel
theorem dL_law_1502 : decode cL_law 1502 = .ok (.invokestatic 257, 3) := by decide +kernel
theorem dL_law_1505 : decode cL_law 1505 = .ok (.sipush (-1002), 3) := by decide +kernel
theorem dL_law_1508 : decode cL_law 1508 = .ok (.if_icmp .ne 81, 3) := by decide +kernel
theorem dL_law_1511 : decode cL_law 1511 = .ok (.aload_n 1, 1) := by decide +kernel
theorem dL_law_1512 : decode cL_law 1512 = .ok (.bipush 115, 2) := by decide +kernel
theorem dL_law_1514 : decode cL_law 1514 = .ok (.iload 5, 2) := by decide +kernel
theorem dL_law_1516 : decode cL_law 1516 = .ok (.iconst 0, 1) := by decide +kernel
theorem dL_law_1517 : decode cL_law 1517 = .ok (.iconst 0, 1) := by decide +kernel
theorem dL_law_1518 : decode cL_law 1518 = .ok (.invokestatic 253, 3) := by decide +kernel
theorem dL_law_1521 : decode cL_law 1521 = .ok (.sipush (-1001), 3) := by decide +kernel
theorem dL_law_1524 : decode cL_law 1524 = .ok (.if_icmp .ne 65, 3) := by decide +kernel
theorem dL_law_1527 : decode cL_law 1527 = .ok (.iload 5, 2) := by decide +kernel
theorem dL_law_1529 : decode cL_law 1529 = .ok (.ifCond .le 18, 3) := by decide +kernel
theorem dL_law_1532 : decode cL_law 1532 = .ok (.aload_n 1, 1) := by decide +kernel
theorem dL_law_1533 : decode cL_law 1533 = .ok (.bipush 115, 2) := by decide +kernel
theorem dL_law_1535 : decode cL_law 1535 = .ok (.iconst 0, 1) := by decide +kernel
theorem dL_law_1536 : decode cL_law 1536 = .ok (.iconst 0, 1) := by decide +kernel
theorem dL_law_1537 : decode cL_law 1537 = .ok (.iconst 0, 1) := by decide +kernel
theorem dL_law_1538 : decode cL_law 1538 = .ok (.invokestatic 253, 3) := by decide +kernel
theorem dL_law_1541 : decode cL_law 1541 = .ok (.sipush (-1002), 3) := by decide +kernel
theorem dL_law_1544 : decode cL_law 1544 = .ok (.if_icmp .ne 45, 3) := by decide +kernel
theorem dL_law_1547 : decode cL_law 1547 = .ok (.iload 5, 2) := by decide +kernel
theorem dL_law_1549 : decode cL_law 1549 = .ok (.ifCond .le 19, 3) := by decide +kernel
theorem dL_law_1552 : decode cL_law 1552 = .ok (.aload_n 1, 1) := by decide +kernel
theorem dL_law_1553 : decode cL_law 1553 = .ok (.bipush 115, 2) := by decide +kernel
theorem dL_law_1555 : decode cL_law 1555 = .ok (.iconst 0, 1) := by decide +kernel
theorem dL_law_1556 : decode cL_law 1556 = .ok (.bipush 101, 2) := by decide +kernel
theorem dL_law_1558 : decode cL_law 1558 = .ok (.iconst 0, 1) := by decide +kernel
theorem dL_law_1559 : decode cL_law 1559 = .ok (.invokestatic 253, 3) := by decide +kernel
theorem dL_law_1562 : decode cL_law 1562 = .ok (.sipush (-1002), 3) := by decide +kernel
theorem dL_law_1565 : decode cL_law 1565 = .ok (.if_icmp .ne 24, 3) := by decide +kernel
theorem dL_law_1568 : decode cL_law 1568 = .ok (.iload 5, 2) := by decide +kernel
theorem dL_law_1570 : decode cL_law 1570 = .ok (.ifCond .le 21, 3) := by decide +kernel
theorem dL_law_1573 : decode cL_law 1573 = .ok (.aload_n 1, 1) := by decide +kernel
theorem dL_law_1574 : decode cL_law 1574 = .ok (.bipush 115, 2) := by decide +kernel
theorem dL_law_1576 : decode cL_law 1576 = .ok (.iconst 0, 1) := by decide +kernel
theorem dL_law_1577 : decode cL_law 1577 = .ok (.iconst 1, 1) := by decide +kernel
theorem dL_law_1578 : decode cL_law 1578 = .ok (.bipush 101, 2) := by decide +kernel
theorem dL_law_1580 : decode cL_law 1580 = .ok (.invokestatic 253, 3) := by decide +kernel
theorem dL_law_1583 : decode cL_law 1583 = .ok (.sipush (-1002), 3) := by decide +kernel
theorem dL_law_1586 : decode cL_law 1586 = .ok (.if_icmp .eq 5, 3) := by decide +kernel
theorem dL_law_1589 : decode cL_law 1589 = .ok (.iconst 0, 1) := by decide +kernel
theorem dL_law_1590 : decode cL_law 1590 = .ok (.ireturn, 1) := by decide +kernel
theorem dL_law_1591 : decode cL_law 1591 = .ok (.iconst 0, 1) := by decide +kernel
theorem dL_law_1592 : decode cL_law 1592 = .ok (.istore 8, 2) := by decide +kernel
theorem dL_law_1594 : decode cL_law 1594 = .ok (.iload 8, 2) := by decide +kernel
theorem dL_law_1596 : decode cL_law 1596 = .ok (.bipush 10, 2) := by decide +kernel
theorem dL_law_1598 : decode cL_law 1598 = .ok (.if_icmp .ge 38, 3) := by decide +kernel
theorem dL_law_1601 : decode cL_law 1601 = .ok (.aload_n 1, 1) := by decide +kernel
theorem dL_law_1602 : decode cL_law 1602 = .ok (.iload 5, 2) := by decide +kernel
theorem dL_law_1604 : decode cL_law 1604 = .ok (.iload 8, 2) := by decide +kernel
theorem dL_law_1606 : decode cL_law 1606 = .ok (.invokestatic 172, 3) := by decide +kernel
theorem dL_law_1609 : decode cL_law 1609 = .ok (.sipush (-1001), 3) := by decide +kernel
theorem dL_law_1612 : decode cL_law 1612 = .ok (.if_icmp .ne 16, 3) := by decide +kernel
theorem dL_law_1615 : decode cL_law 1615 = .ok (.aload_n 1, 1) := by decide +kernel
theorem dL_law_1616 : decode cL_law 1616 = .ok (.iconst (-1), 1) := by decide +kernel
theorem dL_law_1617 : decode cL_law 1617 = .ok (.iload 8, 2) := by decide +kernel
theorem dL_law_1619 : decode cL_law 1619 = .ok (.invokestatic 172, 3) := by decide +kernel
theorem dL_law_1622 : decode cL_law 1622 = .ok (.sipush (-1001), 3) := by decide +kernel
theorem dL_law_1625 : decode cL_law 1625 = .ok (.if_icmp .eq 5, 3) := by decide +kernel
theorem dL_law_1628 : decode cL_law 1628 = .ok (.iconst 0, 1) := by decide +kernel
theorem dL_law_1629 : decode cL_law 1629 = .ok (.ireturn, 1) := by decide +kernel
theorem dL_law_1630 : decode cL_law 1630 = .ok (.iinc 8 1, 3) := by decide +kernel
theorem dL_law_1633 : decode cL_law 1633 = .ok (.goto (-39), 3) := by decide +kernel
theorem dL_law_1636 : decode cL_law 1636 = .ok (.iconst 0, 1) := by decide +kernel
theorem dL_law_1637 : decode cL_law 1637 = .ok (.istore 8, 2) := by decide +kernel
theorem dL_law_1639 : decode cL_law 1639 = .ok (.iload 8, 2) := by decide +kernel
theorem dL_law_1641 : decode cL_law 1641 = .ok (.iconst 4, 1) := by decide +kernel
theorem dL_law_1642 : decode cL_law 1642 = .ok (.if_icmp .ge 38, 3) := by decide +kernel
theorem dL_law_1645 : decode cL_law 1645 = .ok (.aload_n 1, 1) := by decide +kernel
theorem dL_law_1646 : decode cL_law 1646 = .ok (.iload 6, 2) := by decide +kernel
theorem dL_law_1648 : decode cL_law 1648 = .ok (.iload 8, 2) := by decide +kernel
theorem dL_law_1650 : decode cL_law 1650 = .ok (.invokestatic 218, 3) := by decide +kernel
theorem dL_law_1653 : decode cL_law 1653 = .ok (.sipush (-1001), 3) := by decide +kernel
theorem dL_law_1656 : decode cL_law 1656 = .ok (.if_icmp .ne 16, 3) := by decide +kernel
theorem dL_law_1659 : decode cL_law 1659 = .ok (.aload_n 1, 1) := by decide +kernel
theorem dL_law_1660 : decode cL_law 1660 = .ok (.iconst (-1), 1) := by decide +kernel
theorem dL_law_1661 : decode cL_law 1661 = .ok (.iload 8, 2) := by decide +kernel
theorem dL_law_1663 : decode cL_law 1663 = .ok (.invokestatic 218, 3) := by decide +kernel
theorem dL_law_1666 : decode cL_law 1666 = .ok (.sipush (-1001), 3) := by decide +kernel
theorem dL_law_1669 : decode cL_law 1669 = .ok (.if_icmp .eq 5, 3) := by decide +kernel
theorem dL_law_1672 : decode cL_law 1672 = .ok (.iconst 0, 1) := by decide +kernel
theorem dL_law_1673 : decode cL_law 1673 = .ok (.ireturn, 1) := by decide +kernel
theorem dL_law_1674 : decode cL_law 1674 = .ok (.iinc 8 1, 3) := by decide +kernel
theorem dL_law_1677 : decode cL_law 1677 = .ok (.goto (-38), 3) := by decide +kernel
theorem dL_law_1680 : decode cL_law 1680 = .ok (.aload_n 1, 1) := by decide +kernel
theorem dL_law_1681 : decode cL_law 1681 = .ok (.bipush 99, 2) := by decide +kernel
theorem dL_law_1683 : decode cL_law 1683 = .ok (.iload 6, 2) := by decide +kernel
theorem dL_law_1685 : decode cL_law 1685 = .ok (.iconst 0, 1) := by decide +kernel
theorem dL_law_1686 : decode cL_law 1686 = .ok (.invokestatic 178, 3) := by decide +kernel
theorem dL_law_1689 : decode cL_law 1689 = .ok (.sipush (-1001), 3) := by decide +kernel
theorem dL_law_1692 : decode cL_law 1692 = .ok (.if_icmp .ne 290, 3) := by decide +kernel
theorem dL_law_1695 : decode cL_law 1695 = .ok (.aload_n 1, 1) := by decide +kernel
theorem dL_law_1696 : decode cL_law 1696 = .ok (.bipush 99, 2) := by decide +kernel
theorem dL_law_1698 : decode cL_law 1698 = .ok (.iconst 0, 1) := by decide +kernel
theorem dL_law_1699 : decode cL_law 1699 = .ok (.iload 5, 2) := by decide +kernel
theorem dL_law_1701 : decode cL_law 1701 = .ok (.invokestatic 178, 3) := by decide +kernel
theorem dL_law_1704 : decode cL_law 1704 = .ok (.sipush (-1001), 3) := by decide +kernel
theorem dL_law_1707 : decode cL_law 1707 = .ok (.if_icmp .ne 275, 3) := by decide +kernel
theorem dL_law_1710 : decode cL_law 1710 = .ok (.aload_n 1, 1) := by decide +kernel
theorem dL_law_1711 : decode cL_law 1711 = .ok (.bipush 114, 2) := by decide +kernel
theorem dL_law_1713 : decode cL_law 1713 = .ok (.iload 6, 2) := by decide +kernel
theorem dL_law_1715 : decode cL_law 1715 = .ok (.iconst 0, 1) := by decide +kernel
theorem dL_law_1716 : decode cL_law 1716 = .ok (.invokestatic 178, 3) := by decide +kernel
theorem dL_law_1719 : decode cL_law 1719 = .ok (.sipush (-1001), 3) := by decide +kernel
theorem dL_law_1722 : decode cL_law 1722 = .ok (.if_icmp .ne 260, 3) := by decide +kernel
theorem dL_law_1725 : decode cL_law 1725 = .ok (.iload 6, 2) := by decide +kernel
theorem dL_law_1727 : decode cL_law 1727 = .ok (.ifCond .le 18, 3) := by decide +kernel
theorem dL_law_1730 : decode cL_law 1730 = .ok (.aload_n 1, 1) := by decide +kernel
theorem dL_law_1731 : decode cL_law 1731 = .ok (.bipush 114, 2) := by decide +kernel
theorem dL_law_1733 : decode cL_law 1733 = .ok (.iconst 0, 1) := by decide +kernel
theorem dL_law_1734 : decode cL_law 1734 = .ok (.bipush 6, 2) := by decide +kernel
theorem dL_law_1736 : decode cL_law 1736 = .ok (.invokestatic 178, 3) := by decide +kernel
theorem dL_law_1739 : decode cL_law 1739 = .ok (.sipush (-1002), 3) := by decide +kernel
theorem dL_law_1742 : decode cL_law 1742 = .ok (.if_icmp .ne 240, 3) := by decide +kernel
theorem dL_law_1745 : decode cL_law 1745 = .ok (.aload_n 1, 1) := by decide +kernel
theorem dL_law_1746 : decode cL_law 1746 = .ok (.bipush 98, 2) := by decide +kernel
theorem dL_law_1748 : decode cL_law 1748 = .ok (.iload 6, 2) := by decide +kernel
theorem dL_law_1750 : decode cL_law 1750 = .ok (.bipush 9, 2) := by decide +kernel
theorem dL_law_1752 : decode cL_law 1752 = .ok (.invokestatic 178, 3) := by decide +kernel
theorem dL_law_1755 : decode cL_law 1755 = .ok (.sipush (-1001), 3) := by decide +kernel
theorem dL_law_1758 : decode cL_law 1758 = .ok (.if_icmp .ne 224, 3) := by decide +kernel
theorem dL_law_1761 : decode cL_law 1761 = .ok (.iload 6, 2) := by decide +kernel
