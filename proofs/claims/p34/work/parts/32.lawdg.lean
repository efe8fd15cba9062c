theorem dL_law_1424 : decode cL_law 1424 = .ok (.iadd, 1) := by decide +kernel
theorem dL_law_1425 : decode cL_law 1425 = .ok (.iaload, 1) := by decide +kernel
theorem dL_law_1426 : decode cL_law 1426 = .ok (.aload_n 0, 1) := by decide +kernel
theorem dL_law_1427 : decode cL_law 1427 = .ok (.iload 4, 2) := by decide +kernel
theorem dL_law_1429 : decode cL_law 1429 = .ok (.iconst 2, 1) := by decide +kernel
theorem dL_law_1430 : decode cL_law 1430 = .ok (.iadd, 1) := by decide +kernel
theorem dL_law_1431 : decode cL_law 1431 = .ok (.iaload, 1) := by decide +kernel
theorem dL_law_1432 : decode cL_law 1432 = .ok (.aload_n 0, 1) := by decide +kernel
theorem dL_law_1433 : decode cL_law 1433 = .ok (.iload 4, 2) := by decide +kernel
theorem dL_law_1435 : decode cL_law 1435 = .ok (.iconst 3, 1) := by decide +kernel
theorem dL_law_1436 : decode cL_law 1436 = .ok (.iadd, 1) := by decide +kernel
theorem dL_law_1437 : decode cL_law 1437 = .ok (.iaload, 1) := by decide +kernel
theorem dL_law_1438 : decode cL_law 1438 = .ok (.invokevirtual 207, 3) := by decide +kernel
theorem dL_law_1441 : decode cL_law 1441 = .ok (.istore 6, 2) := by decide +kernel
theorem dL_law_1443 : decode cL_law 1443 = .ok (.goto 195, 3) := by decide +kernel
theorem dL_law_1446 : decode cL_law 1446 = .ok (.aload_n 1, 1) := by decide +kernel
theorem dL_law_1447 : decode cL_law 1447 = .ok (.aload_n 0, 1) := by decide +kernel
theorem dL_law_1448 : decode cL_law 1448 = .ok (.iload 4, 2) := by decide +kernel
theorem dL_law_1450 : decode cL_law 1450 = .ok (.iconst 1, 1) := by decide +kernel
theorem dL_law_1451 : decode cL_law 1451 = .ok (.iadd, 1) := by decide +kernel
theorem dL_law_1452 : decode cL_law 1452 = .ok (.iaload, 1) := by decide +kernel
theorem dL_law_1453 : decode cL_law 1453 = .ok (.aload_n 0, 1) := by decide +kernel
theorem dL_law_1454 : decode cL_law 1454 = .ok (.iload 4, 2) := by decide +kernel
theorem dL_law_1456 : decode cL_law 1456 = .ok (.iconst 2, 1) := by decide +kernel
theorem dL_law_1457 : decode cL_law 1457 = .ok (.iadd, 1) := by decide +kernel
theorem dL_law_1458 : decode cL_law 1458 = .ok (.iaload, 1) := by decide +kernel
theorem dL_law_1459 : decode cL_law 1459 = .ok (.aload_n 3, 1) := by decide +kernel
theorem dL_law_1460 : decode cL_law 1460 = .ok (.invokestatic 208, 3) := by decide +kernel
theorem dL_law_1463 : decode cL_law 1463 = .ok (.istore 5, 2) := by decide +kernel
theorem dL_law_1465 : decode cL_law 1465 = .ok (.aload_n 2, 1) := by decide +kernel
theorem dL_law_1466 : decode cL_law 1466 = .ok (.aload_n 0, 1) := by decide +kernel
theorem dL_law_1467 : decode cL_law 1467 = .ok (.iload 4, 2) := by decide +kernel
theorem dL_law_1469 : decode cL_law 1469 = .ok (.iconst 1, 1) := by decide +kernel
theorem dL_law_1470 : decode cL_law 1470 = .ok (.iadd, 1) := by decide +kernel
theorem dL_law_1471 : decode cL_law 1471 = .ok (.iaload, 1) := by decide +kernel
theorem dL_law_1472 : decode cL_law 1472 = .ok (.aload_n 0, 1) := by decide +kernel
theorem dL_law_1473 : decode cL_law 1473 = .ok (.iload 4, 2) := by decide +kernel
theorem dL_law_1475 : decode cL_law 1475 = .ok (.iconst 2, 1) := by decide +kernel
theorem dL_law_1476 : decode cL_law 1476 = .ok (.iadd, 1) := by decide +kernel
theorem dL_law_1477 : decode cL_law 1477 = .ok (.iaload, 1) := by decide +kernel
theorem dL_law_1478 : decode cL_law 1478 = .ok (.invokevirtual 210, 3) := by decide +kernel
theorem dL_law_1481 : decode cL_law 1481 = .ok (.istore 6, 2) := by decide +kernel
theorem dL_law_1483 : decode cL_law 1483 = .ok (.goto 155, 3) := by decide +kernel
theorem dL_law_1486 : decode cL_law 1486 = .ok (.aload_n 1, 1) := by decide +kernel
theorem dL_law_1487 : decode cL_law 1487 = .ok (.aload_n 0, 1) := by decide +kernel
theorem dL_law_1488 : decode cL_law 1488 = .ok (.iload 4, 2) := by decide +kernel
theorem dL_law_1490 : decode cL_law 1490 = .ok (.iconst 1, 1) := by decide +kernel
theorem dL_law_1491 : decode cL_law 1491 = .ok (.iadd, 1) := by decide +kernel
theorem dL_law_1492 : decode cL_law 1492 = .ok (.iaload, 1) := by decide +kernel
theorem dL_law_1493 : decode cL_law 1493 = .ok (.aload_n 0, 1) := by decide +kernel
theorem dL_law_1494 : decode cL_law 1494 = .ok (.iload 4, 2) := by decide +kernel
theorem dL_law_1496 : decode cL_law 1496 = .ok (.iconst 2, 1) := by decide +kernel
theorem dL_law_1497 : decode cL_law 1497 = .ok (.iadd, 1) := by decide +kernel
theorem dL_law_1498 : decode cL_law 1498 = .ok (.iaload, 1) := by decide +kernel
theorem dL_law_1499 : decode cL_law 1499 = .ok (.aload_n 0, 1) := by decide +kernel
theorem dL_law_1500 : decode cL_law 1500 = .ok (.iload 4, 2) := by decide +kernel
theorem dL_law_1502 : decode cL_law 1502 = .ok (.iconst 3, 1) := by decide +kernel
theorem dL_law_1503 : decode cL_law 1503 = .ok (.iadd, 1) := by decide +kernel
theorem dL_law_1504 : decode cL_law 1504 = .ok (.iaload, 1) := by decide +kernel
theorem dL_law_1505 : decode cL_law 1505 = .ok (.aload_n 0, 1) := by decide +kernel
theorem dL_law_1506 : decode cL_law 1506 = .ok (.iload 4, 2) := by decide +kernel
theorem dL_law_1508 : decode cL_law 1508 = .ok (.iconst 4, 1) := by decide +kernel
theorem dL_law_1509 : decode cL_law 1509 = .ok (.iadd, 1) := by decide +kernel
theorem dL_law_1510 : decode cL_law 1510 = .ok (.iaload, 1) := by decide +kernel
theorem dL_law_1511 : decode cL_law 1511 = .ok (.aload_n 0, 1) := by decide +kernel
theorem dL_law_1512 : decode cL_law 1512 = .ok (.iload 4, 2) := by decide +kernel
theorem dL_law_1514 : decode cL_law 1514 = .ok (.iconst 5, 1) := by decide +kernel
theorem dL_law_1515 : decode cL_law 1515 = .ok (.iadd, 1) := by decide +kernel
theorem dL_law_1516 : decode cL_law 1516 = .ok (.iaload, 1) := by decide +kernel
theorem dL_law_1517 : decode cL_law 1517 = .ok (.aload_n 3, 1) := by decide +kernel
theorem dL_law_1518 : decode cL_law 1518 = .ok (.invokestatic 211, 3) := by decide +kernel
theorem dL_law_1521 : decode cL_law 1521 = .ok (.istore 5, 2) := by decide +kernel
theorem dL_law_1523 : decode cL_law 1523 = .ok (.aload_n 2, 1) := by decide +kernel
theorem dL_law_1524 : decode cL_law 1524 = .ok (.aload_n 0, 1) := by decide +kernel
theorem dL_law_1525 : decode cL_law 1525 = .ok (.iload 4, 2) := by decide +kernel
theorem dL_law_1527 : decode cL_law 1527 = .ok (.iconst 1, 1) := by decide +kernel
theorem dL_law_1528 : decode cL_law 1528 = .ok (.iadd, 1) := by decide +kernel
theorem dL_law_1529 : decode cL_law 1529 = .ok (.iaload, 1) := by decide +kernel
theorem dL_law_1530 : decode cL_law 1530 = .ok (.aload_n 0, 1) := by decide +kernel
theorem dL_law_1531 : decode cL_law 1531 = .ok (.iload 4, 2) := by decide +kernel
theorem dL_law_1533 : decode cL_law 1533 = .ok (.iconst 2, 1) := by decide +kernel
theorem dL_law_1534 : decode cL_law 1534 = .ok (.iadd, 1) := by decide +kernel
theorem dL_law_1535 : decode cL_law 1535 = .ok (.iaload, 1) := by decide +kernel
theorem dL_law_1536 : decode cL_law 1536 = .ok (.aload_n 0, 1) := by decide +kernel
theorem dL_law_1537 : decode cL_law 1537 = .ok (.iload 4, 2) := by decide +kernel
theorem dL_law_1539 : decode cL_law 1539 = .ok (.iconst 3, 1) := by decide +kernel
theorem dL_law_1540 : decode cL_law 1540 = .ok (.iadd, 1) := by decide +kernel
theorem dL_law_1541 : decode cL_law 1541 = .ok (.iaload, 1) := by decide +kernel
theorem dL_law_1542 : decode cL_law 1542 = .ok (.aload_n 0, 1) := by decide +kernel
theorem dL_law_1543 : decode cL_law 1543 = .ok (.iload 4, 2) := by decide +kernel
theorem dL_law_1545 : decode cL_law 1545 = .ok (.iconst 4, 1) := by decide +kernel
theorem dL_law_1546 : decode cL_law 1546 = .ok (.iadd, 1) := by decide +kernel
theorem dL_law_1547 : decode cL_law 1547 = .ok (.iaload, 1) := by decide +kernel
theorem dL_law_1548 : decode cL_law 1548 = .ok (.aload_n 0, 1) := by decide +kernel
theorem dL_law_1549 : decode cL_law 1549 = .ok (.iload 4, 2) := by decide +kernel
theorem dL_law_1551 : decode cL_law 1551 = .ok (.iconst 5, 1) := by decide +kernel
theorem dL_law_1552 : decode cL_law 1552 = .ok (.iadd, 1) := by decide +kernel
theorem dL_law_1553 : decode cL_law 1553 = .ok (.iaload, 1) := by decide +kernel
theorem dL_law_1554 : decode cL_law 1554 = .ok (.invokevirtual 214, 3) := by decide +kernel
theorem dL_law_1557 : decode cL_law 1557 = .ok (.istore 6, 2) := by decide +kernel
theorem dL_law_1559 : decode cL_law 1559 = .ok (.goto 79, 3) := by decide +kernel
theorem dL_law_1562 : decode cL_law 1562 = .ok (.aload_n 1, 1) := by decide +kernel
theorem dL_law_1563 : decode cL_law 1563 = .ok (.invokevirtual 215, 3) := by decide +kernel
theorem dL_law_1566 : decode cL_law 1566 = .ok (.pop, 1) := by decide +kernel
theorem dL_law_1567 : decode cL_law 1567 = .ok (.aload_n 2, 1) := by decide +kernel
theorem dL_law_1568 : decode cL_law 1568 = .ok (.invokevirtual 218, 3) := by decide +kernel
theorem dL_law_1571 : decode cL_law 1571 = .ok (.pop, 1) := by decide +kernel
theorem dL_law_1572 : decode cL_law 1572 = .ok (.goto 66, 3) := by decide +kernel
theorem dL_law_1575 : decode cL_law 1575 = .ok (.aload_n 1, 1) := by decide +kernel
theorem dL_law_1576 : decode cL_law 1576 = .ok (.invokevirtual 219, 3) := by decide +kernel
theorem dL_law_1579 : decode cL_law 1579 = .ok (.aload_n 2, 1) := by decide +kernel
theorem dL_law_1580 : decode cL_law 1580 = .ok (.invokevirtual 222, 3) := by decide +kernel
theorem dL_law_1583 : decode cL_law 1583 = .ok (.if_icmp .eq 55, 3) := by decide +kernel
theorem dL_law_1586 : decode cL_law 1586 = .ok (.iconst 0, 1) := by decide +kernel
theorem dL_law_1587 : decode cL_law 1587 = .ok (.ireturn, 1) := by decide +kernel
theorem dL_law_1588 : decode cL_law 1588 = .ok (.aload_n 1, 1) := by decide +kernel
theorem dL_law_1589 : decode cL_law 1589 = .ok (.aload_n 0, 1) := by decide +kernel
theorem dL_law_1590 : decode cL_law 1590 = .ok (.iload 4, 2) := by decide +kernel
theorem dL_law_1592 : decode cL_law 1592 = .ok (.iconst 1, 1) := by decide +kernel
theorem dL_law_1593 : decode cL_law 1593 = .ok (.iadd, 1) := by decide +kernel
theorem dL_law_1594 : decode cL_law 1594 = .ok (.iaload, 1) := by decide +kernel
theorem dL_law_1595 : decode cL_law 1595 = .ok (.invokevirtual 223, 3) := by decide +kernel
theorem dL_law_1598 : decode cL_law 1598 = .ok (.pop, 1) := by decide +kernel
theorem dL_law_1599 : decode cL_law 1599 = .ok (.aload_n 2, 1) := by decide +kernel
theorem dL_law_1600 : decode cL_law 1600 = .ok (.aload_n 0, 1) := by decide +kernel
theorem dL_law_1601 : decode cL_law 1601 = .ok (.iload 4, 2) := by decide +kernel
theorem dL_law_1603 : decode cL_law 1603 = .ok (.iconst 1, 1) := by decide +kernel
theorem dL_law_1604 : decode cL_law 1604 = .ok (.iadd, 1) := by decide +kernel
theorem dL_law_1605 : decode cL_law 1605 = .ok (.iaload, 1) := by decide +kernel
theorem dL_law_1606 : decode cL_law 1606 = .ok (.invokevirtual 226, 3) := by decide +kernel
theorem dL_law_1609 : decode cL_law 1609 = .ok (.pop, 1) := by decide +kernel
theorem dL_law_1610 : decode cL_law 1610 = .ok (.goto 28, 3) := by decide +kernel
theorem dL_law_1613 : decode cL_law 1613 = .ok (.aload_n 1, 1) := by decide +kernel
theorem dL_law_1614 : decode cL_law 1614 = .ok (.aload_n 0, 1) := by decide +kernel
theorem dL_law_1615 : decode cL_law 1615 = .ok (.iload 4, 2) := by decide +kernel
theorem dL_law_1617 : decode cL_law 1617 = .ok (.iconst 1, 1) := by decide +kernel
theorem dL_law_1618 : decode cL_law 1618 = .ok (.iadd, 1) := by decide +kernel
theorem dL_law_1619 : decode cL_law 1619 = .ok (.iaload, 1) := by decide +kernel
theorem dL_law_1620 : decode cL_law 1620 = .ok (.invokevirtual 227, 3) := by decide +kernel
theorem dL_law_1623 : decode cL_law 1623 = .ok (.pop, 1) := by decide +kernel
theorem dL_law_1624 : decode cL_law 1624 = .ok (.aload_n 2, 1) := by decide +kernel
theorem dL_law_1625 : decode cL_law 1625 = .ok (.aload_n 0, 1) := by decide +kernel
theorem dL_law_1626 : decode cL_law 1626 = .ok (.iload 4, 2) := by decide +kernel
theorem dL_law_1628 : decode cL_law 1628 = .ok (.iconst 1, 1) := by decide +kernel
theorem dL_law_1629 : decode cL_law 1629 = .ok (.iadd, 1) := by decide +kernel
theorem dL_law_1630 : decode cL_law 1630 = .ok (.iaload, 1) := by decide +kernel
theorem dL_law_1631 : decode cL_law 1631 = .ok (.invokevirtual 230, 3) := by decide +kernel
theorem dL_law_1634 : decode cL_law 1634 = .ok (.pop, 1) := by decide +kernel
theorem dL_law_1635 : decode cL_law 1635 = .ok (.goto 3, 3) := by decide +kernel
theorem dL_law_1638 : decode cL_law 1638 = .ok (.iinc 4 6, 3) := by decide +kernel
