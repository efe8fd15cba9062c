theorem dL_law_1433_c : decode cL_law 1433 = .ok (.iconst 1, 1) ∧ decode cL_law 1434 = .ok (.iadd, 1) ∧ decode cL_law 1435 = .ok (.iaload, 1) ∧ decode cL_law 1436 = .ok (.aload_n 0, 1) ∧ decode cL_law 1437 = .ok (.iload 4, 2) ∧ decode cL_law 1439 = .ok (.iconst 2, 1) ∧ decode cL_law 1440 = .ok (.iadd, 1) ∧ decode cL_law 1441 = .ok (.iaload, 1) ∧ decode cL_law 1442 = .ok (.aload_n 0, 1) ∧ decode cL_law 1443 = .ok (.iload 4, 2) ∧ decode cL_law 1445 = .ok (.iconst 3, 1) ∧ decode cL_law 1446 = .ok (.iadd, 1) ∧ decode cL_law 1447 = .ok (.iaload, 1) ∧ decode cL_law 1448 = .ok (.aload_n 3, 1) ∧ decode cL_law 1449 = .ok (.invokestatic 208, 3) ∧ decode cL_law 1452 = .ok (.istore 5, 2) := by decide +kernel
theorem dL_law_1433 : decode cL_law 1433 = .ok (.iconst 1, 1) := dL_law_1433_c.1
theorem dL_law_1434 : decode cL_law 1434 = .ok (.iadd, 1) := dL_law_1433_c.2.1
theorem dL_law_1435 : decode cL_law 1435 = .ok (.iaload, 1) := dL_law_1433_c.2.2.1
theorem dL_law_1436 : decode cL_law 1436 = .ok (.aload_n 0, 1) := dL_law_1433_c.2.2.2.1
theorem dL_law_1437 : decode cL_law 1437 = .ok (.iload 4, 2) := dL_law_1433_c.2.2.2.2.1
theorem dL_law_1439 : decode cL_law 1439 = .ok (.iconst 2, 1) := dL_law_1433_c.2.2.2.2.2.1
theorem dL_law_1440 : decode cL_law 1440 = .ok (.iadd, 1) := dL_law_1433_c.2.2.2.2.2.2.1
theorem dL_law_1441 : decode cL_law 1441 = .ok (.iaload, 1) := dL_law_1433_c.2.2.2.2.2.2.2.1
theorem dL_law_1442 : decode cL_law 1442 = .ok (.aload_n 0, 1) := dL_law_1433_c.2.2.2.2.2.2.2.2.1
theorem dL_law_1443 : decode cL_law 1443 = .ok (.iload 4, 2) := dL_law_1433_c.2.2.2.2.2.2.2.2.2.1
theorem dL_law_1445 : decode cL_law 1445 = .ok (.iconst 3, 1) := dL_law_1433_c.2.2.2.2.2.2.2.2.2.2.1
theorem dL_law_1446 : decode cL_law 1446 = .ok (.iadd, 1) := dL_law_1433_c.2.2.2.2.2.2.2.2.2.2.2.1
theorem dL_law_1447 : decode cL_law 1447 = .ok (.iaload, 1) := dL_law_1433_c.2.2.2.2.2.2.2.2.2.2.2.2.1
theorem dL_law_1448 : decode cL_law 1448 = .ok (.aload_n 3, 1) := dL_law_1433_c.2.2.2.2.2.2.2.2.2.2.2.2.2.1
theorem dL_law_1449 : decode cL_law 1449 = .ok (.invokestatic 208, 3) := dL_law_1433_c.2.2.2.2.2.2.2.2.2.2.2.2.2.2.1
theorem dL_law_1452 : decode cL_law 1452 = .ok (.istore 5, 2) := dL_law_1433_c.2.2.2.2.2.2.2.2.2.2.2.2.2.2.2
theorem dL_law_1454_c : decode cL_law 1454 = .ok (.aload_n 2, 1) ∧ decode cL_law 1455 = .ok (.aload_n 0, 1) ∧ decode cL_law 1456 = .ok (.iload 4, 2) ∧ decode cL_law 1458 = .ok (.iconst 1, 1) ∧ decode cL_law 1459 = .ok (.iadd, 1) ∧ decode cL_law 1460 = .ok (.iaload, 1) ∧ decode cL_law 1461 = .ok (.aload_n 0, 1) ∧ decode cL_law 1462 = .ok (.iload 4, 2) ∧ decode cL_law 1464 = .ok (.iconst 2, 1) ∧ decode cL_law 1465 = .ok (.iadd, 1) ∧ decode cL_law 1466 = .ok (.iaload, 1) ∧ decode cL_law 1467 = .ok (.aload_n 0, 1) ∧ decode cL_law 1468 = .ok (.iload 4, 2) ∧ decode cL_law 1470 = .ok (.iconst 3, 1) ∧ decode cL_law 1471 = .ok (.iadd, 1) ∧ decode cL_law 1472 = .ok (.iaload, 1) := by decide +kernel
theorem dL_law_1454 : decode cL_law 1454 = .ok (.aload_n 2, 1) := dL_law_1454_c.1
theorem dL_law_1455 : decode cL_law 1455 = .ok (.aload_n 0, 1) := dL_law_1454_c.2.1
theorem dL_law_1456 : decode cL_law 1456 = .ok (.iload 4, 2) := dL_law_1454_c.2.2.1
theorem dL_law_1458 : decode cL_law 1458 = .ok (.iconst 1, 1) := dL_law_1454_c.2.2.2.1
theorem dL_law_1459 : decode cL_law 1459 = .ok (.iadd, 1) := dL_law_1454_c.2.2.2.2.1
theorem dL_law_1460 : decode cL_law 1460 = .ok (.iaload, 1) := dL_law_1454_c.2.2.2.2.2.1
theorem dL_law_1461 : decode cL_law 1461 = .ok (.aload_n 0, 1) := dL_law_1454_c.2.2.2.2.2.2.1
theorem dL_law_1462 : decode cL_law 1462 = .ok (.iload 4, 2) := dL_law_1454_c.2.2.2.2.2.2.2.1
theorem dL_law_1464 : decode cL_law 1464 = .ok (.iconst 2, 1) := dL_law_1454_c.2.2.2.2.2.2.2.2.1
theorem dL_law_1465 : decode cL_law 1465 = .ok (.iadd, 1) := dL_law_1454_c.2.2.2.2.2.2.2.2.2.1
theorem dL_law_1466 : decode cL_law 1466 = .ok (.iaload, 1) := dL_law_1454_c.2.2.2.2.2.2.2.2.2.2.1
theorem dL_law_1467 : decode cL_law 1467 = .ok (.aload_n 0, 1) := dL_law_1454_c.2.2.2.2.2.2.2.2.2.2.2.1
theorem dL_law_1468 : decode cL_law 1468 = .ok (.iload 4, 2) := dL_law_1454_c.2.2.2.2.2.2.2.2.2.2.2.2.1
theorem dL_law_1470 : decode cL_law 1470 = .ok (.iconst 3, 1) := dL_law_1454_c.2.2.2.2.2.2.2.2.2.2.2.2.2.1
theorem dL_law_1471 : decode cL_law 1471 = .ok (.iadd, 1) := dL_law_1454_c.2.2.2.2.2.2.2.2.2.2.2.2.2.2.1
theorem dL_law_1472 : decode cL_law 1472 = .ok (.iaload, 1) := dL_law_1454_c.2.2.2.2.2.2.2.2.2.2.2.2.2.2.2
theorem dL_law_1473_c : decode cL_law 1473 = .ok (.invokevirtual 210, 3) ∧ decode cL_law 1476 = .ok (.istore 6, 2) ∧ decode cL_law 1478 = .ok (.goto 195, 3) ∧ decode cL_law 1481 = .ok (.aload_n 1, 1) ∧ decode cL_law 1482 = .ok (.aload_n 0, 1) ∧ decode cL_law 1483 = .ok (.iload 4, 2) ∧ decode cL_law 1485 = .ok (.iconst 1, 1) ∧ decode cL_law 1486 = .ok (.iadd, 1) ∧ decode cL_law 1487 = .ok (.iaload, 1) ∧ decode cL_law 1488 = .ok (.aload_n 0, 1) ∧ decode cL_law 1489 = .ok (.iload 4, 2) ∧ decode cL_law 1491 = .ok (.iconst 2, 1) ∧ decode cL_law 1492 = .ok (.iadd, 1) ∧ decode cL_law 1493 = .ok (.iaload, 1) ∧ decode cL_law 1494 = .ok (.aload_n 3, 1) ∧ decode cL_law 1495 = .ok (.invokestatic 211, 3) := by decide +kernel
theorem dL_law_1473 : decode cL_law 1473 = .ok (.invokevirtual 210, 3) := dL_law_1473_c.1
theorem dL_law_1476 : decode cL_law 1476 = .ok (.istore 6, 2) := dL_law_1473_c.2.1
theorem dL_law_1478 : decode cL_law 1478 = .ok (.goto 195, 3) := dL_law_1473_c.2.2.1
theorem dL_law_1481 : decode cL_law 1481 = .ok (.aload_n 1, 1) := dL_law_1473_c.2.2.2.1
theorem dL_law_1482 : decode cL_law 1482 = .ok (.aload_n 0, 1) := dL_law_1473_c.2.2.2.2.1
theorem dL_law_1483 : decode cL_law 1483 = .ok (.iload 4, 2) := dL_law_1473_c.2.2.2.2.2.1
theorem dL_law_1485 : decode cL_law 1485 = .ok (.iconst 1, 1) := dL_law_1473_c.2.2.2.2.2.2.1
theorem dL_law_1486 : decode cL_law 1486 = .ok (.iadd, 1) := dL_law_1473_c.2.2.2.2.2.2.2.1
theorem dL_law_1487 : decode cL_law 1487 = .ok (.iaload, 1) := dL_law_1473_c.2.2.2.2.2.2.2.2.1
theorem dL_law_1488 : decode cL_law 1488 = .ok (.aload_n 0, 1) := dL_law_1473_c.2.2.2.2.2.2.2.2.2.1
theorem dL_law_1489 : decode cL_law 1489 = .ok (.iload 4, 2) := dL_law_1473_c.2.2.2.2.2.2.2.2.2.2.1
theorem dL_law_1491 : decode cL_law 1491 = .ok (.iconst 2, 1) := dL_law_1473_c.2.2.2.2.2.2.2.2.2.2.2.1
theorem dL_law_1492 : decode cL_law 1492 = .ok (.iadd, 1) := dL_law_1473_c.2.2.2.2.2.2.2.2.2.2.2.2.1
theorem dL_law_1493 : decode cL_law 1493 = .ok (.iaload, 1) := dL_law_1473_c.2.2.2.2.2.2.2.2.2.2.2.2.2.1
theorem dL_law_1494 : decode cL_law 1494 = .ok (.aload_n 3, 1) := dL_law_1473_c.2.2.2.2.2.2.2.2.2.2.2.2.2.2.1
theorem dL_law_1495 : decode cL_law 1495 = .ok (.invokestatic 211, 3) := dL_law_1473_c.2.2.2.2.2.2.2.2.2.2.2.2.2.2.2
theorem dL_law_1498_c : decode cL_law 1498 = .ok (.istore 5, 2) ∧ decode cL_law 1500 = .ok (.aload_n 2, 1) ∧ decode cL_law 1501 = .ok (.aload_n 0, 1) ∧ decode cL_law 1502 = .ok (.iload 4, 2) ∧ decode cL_law 1504 = .ok (.iconst 1, 1) ∧ decode cL_law 1505 = .ok (.iadd, 1) ∧ decode cL_law 1506 = .ok (.iaload, 1) ∧ decode cL_law 1507 = .ok (.aload_n 0, 1) ∧ decode cL_law 1508 = .ok (.iload 4, 2) ∧ decode cL_law 1510 = .ok (.iconst 2, 1) ∧ decode cL_law 1511 = .ok (.iadd, 1) ∧ decode cL_law 1512 = .ok (.iaload, 1) ∧ decode cL_law 1513 = .ok (.invokevirtual 213, 3) ∧ decode cL_law 1516 = .ok (.istore 6, 2) ∧ decode cL_law 1518 = .ok (.goto 155, 3) ∧ decode cL_law 1521 = .ok (.aload_n 1, 1) := by decide +kernel
theorem dL_law_1498 : decode cL_law 1498 = .ok (.istore 5, 2) := dL_law_1498_c.1
theorem dL_law_1500 : decode cL_law 1500 = .ok (.aload_n 2, 1) := dL_law_1498_c.2.1
theorem dL_law_1501 : decode cL_law 1501 = .ok (.aload_n 0, 1) := dL_law_1498_c.2.2.1
theorem dL_law_1502 : decode cL_law 1502 = .ok (.iload 4, 2) := dL_law_1498_c.2.2.2.1
theorem dL_law_1504 : decode cL_law 1504 = .ok (.iconst 1, 1) := dL_law_1498_c.2.2.2.2.1
theorem dL_law_1505 : decode cL_law 1505 = .ok (.iadd, 1) := dL_law_1498_c.2.2.2.2.2.1
theorem dL_law_1506 : decode cL_law 1506 = .ok (.iaload, 1) := dL_law_1498_c.2.2.2.2.2.2.1
theorem dL_law_1507 : decode cL_law 1507 = .ok (.aload_n 0, 1) := dL_law_1498_c.2.2.2.2.2.2.2.1
theorem dL_law_1508 : decode cL_law 1508 = .ok (.iload 4, 2) := dL_law_1498_c.2.2.2.2.2.2.2.2.1
theorem dL_law_1510 : decode cL_law 1510 = .ok (.iconst 2, 1) := dL_law_1498_c.2.2.2.2.2.2.2.2.2.1
theorem dL_law_1511 : decode cL_law 1511 = .ok (.iadd, 1) := dL_law_1498_c.2.2.2.2.2.2.2.2.2.2.1
theorem dL_law_1512 : decode cL_law 1512 = .ok (.iaload, 1) := dL_law_1498_c.2.2.2.2.2.2.2.2.2.2.2.1
theorem dL_law_1513 : decode cL_law 1513 = .ok (.invokevirtual 213, 3) := dL_law_1498_c.2.2.2.2.2.2.2.2.2.2.2.2.1
theorem dL_law_1516 : decode cL_law 1516 = .ok (.istore 6, 2) := dL_law_1498_c.2.2.2.2.2.2.2.2.2.2.2.2.2.1
theorem dL_law_1518 : decode cL_law 1518 = .ok (.goto 155, 3) := dL_law_1498_c.2.2.2.2.2.2.2.2.2.2.2.2.2.2.1
theorem dL_law_1521 : decode cL_law 1521 = .ok (.aload_n 1, 1) := dL_law_1498_c.2.2.2.2.2.2.2.2.2.2.2.2.2.2.2
theorem dL_law_1522_c : decode cL_law 1522 = .ok (.aload_n 0, 1) ∧ decode cL_law 1523 = .ok (.iload 4, 2) ∧ decode cL_law 1525 = .ok (.iconst 1, 1) ∧ decode cL_law 1526 = .ok (.iadd, 1) ∧ decode cL_law 1527 = .ok (.iaload, 1) ∧ decode cL_law 1528 = .ok (.aload_n 0, 1) ∧ decode cL_law 1529 = .ok (.iload 4, 2) ∧ decode cL_law 1531 = .ok (.iconst 2, 1) ∧ decode cL_law 1532 = .ok (.iadd, 1) ∧ decode cL_law 1533 = .ok (.iaload, 1) ∧ decode cL_law 1534 = .ok (.aload_n 0, 1) ∧ decode cL_law 1535 = .ok (.iload 4, 2) ∧ decode cL_law 1537 = .ok (.iconst 3, 1) ∧ decode cL_law 1538 = .ok (.iadd, 1) ∧ decode cL_law 1539 = .ok (.iaload, 1) ∧ decode cL_law 1540 = .ok (.aload_n 0, 1) := by decide +kernel
theorem dL_law_1522 : decode cL_law 1522 = .ok (.aload_n 0, 1) := dL_law_1522_c.1
theorem dL_law_1523 : decode cL_law 1523 = .ok (.iload 4, 2) := dL_law_1522_c.2.1
theorem dL_law_1525 : decode cL_law 1525 = .ok (.iconst 1, 1) := dL_law_1522_c.2.2.1
theorem dL_law_1526 : decode cL_law 1526 = .ok (.iadd, 1) := dL_law_1522_c.2.2.2.1
theorem dL_law_1527 : decode cL_law 1527 = .ok (.iaload, 1) := dL_law_1522_c.2.2.2.2.1
theorem dL_law_1528 : decode cL_law 1528 = .ok (.aload_n 0, 1) := dL_law_1522_c.2.2.2.2.2.1
theorem dL_law_1529 : decode cL_law 1529 = .ok (.iload 4, 2) := dL_law_1522_c.2.2.2.2.2.2.1
theorem dL_law_1531 : decode cL_law 1531 = .ok (.iconst 2, 1) := dL_law_1522_c.2.2.2.2.2.2.2.1
theorem dL_law_1532 : decode cL_law 1532 = .ok (.iadd, 1) := dL_law_1522_c.2.2.2.2.2.2.2.2.1
theorem dL_law_1533 : decode cL_law 1533 = .ok (.iaload, 1) := dL_law_1522_c.2.2.2.2.2.2.2.2.2.1
theorem dL_law_1534 : decode cL_law 1534 = .ok (.aload_n 0, 1) := dL_law_1522_c.2.2.2.2.2.2.2.2.2.2.1
theorem dL_law_1535 : decode cL_law 1535 = .ok (.iload 4, 2) := dL_law_1522_c.2.2.2.2.2.2.2.2.2.2.2.1
theorem dL_law_1537 : decode cL_law 1537 = .ok (.iconst 3, 1) := dL_law_1522_c.2.2.2.2.2.2.2.2.2.2.2.2.1
theorem dL_law_1538 : decode cL_law 1538 = .ok (.iadd, 1) := dL_law_1522_c.2.2.2.2.2.2.2.2.2.2.2.2.2.1
theorem dL_law_1539 : decode cL_law 1539 = .ok (.iaload, 1) := dL_law_1522_c.2.2.2.2.2.2.2.2.2.2.2.2.2.2.1
theorem dL_law_1540 : decode cL_law 1540 = .ok (.aload_n 0, 1) := dL_law_1522_c.2.2.2.2.2.2.2.2.2.2.2.2.2.2.2
theorem dL_law_1541_c : decode cL_law 1541 = .ok (.iload 4, 2) ∧ decode cL_law 1543 = .ok (.iconst 4, 1) ∧ decode cL_law 1544 = .ok (.iadd, 1) ∧ decode cL_law 1545 = .ok (.iaload, 1) ∧ decode cL_law 1546 = .ok (.aload_n 0, 1) ∧ decode cL_law 1547 = .ok (.iload 4, 2) ∧ decode cL_law 1549 = .ok (.iconst 5, 1) ∧ decode cL_law 1550 = .ok (.iadd, 1) ∧ decode cL_law 1551 = .ok (.iaload, 1) ∧ decode cL_law 1552 = .ok (.aload_n 3, 1) ∧ decode cL_law 1553 = .ok (.invokestatic 214, 3) ∧ decode cL_law 1556 = .ok (.istore 5, 2) ∧ decode cL_law 1558 = .ok (.aload_n 2, 1) ∧ decode cL_law 1559 = .ok (.aload_n 0, 1) ∧ decode cL_law 1560 = .ok (.iload 4, 2) ∧ decode cL_law 1562 = .ok (.iconst 1, 1) := by decide +kernel
theorem dL_law_1541 : decode cL_law 1541 = .ok (.iload 4, 2) := dL_law_1541_c.1
theorem dL_law_1543 : decode cL_law 1543 = .ok (.iconst 4, 1) := dL_law_1541_c.2.1
theorem dL_law_1544 : decode cL_law 1544 = .ok (.iadd, 1) := dL_law_1541_c.2.2.1
theorem dL_law_1545 : decode cL_law 1545 = .ok (.iaload, 1) := dL_law_1541_c.2.2.2.1
theorem dL_law_1546 : decode cL_law 1546 = .ok (.aload_n 0, 1) := dL_law_1541_c.2.2.2.2.1
theorem dL_law_1547 : decode cL_law 1547 = .ok (.iload 4, 2) := dL_law_1541_c.2.2.2.2.2.1
theorem dL_law_1549 : decode cL_law 1549 = .ok (.iconst 5, 1) := dL_law_1541_c.2.2.2.2.2.2.1
theorem dL_law_1550 : decode cL_law 1550 = .ok (.iadd, 1) := dL_law_1541_c.2.2.2.2.2.2.2.1
theorem dL_law_1551 : decode cL_law 1551 = .ok (.iaload, 1) := dL_law_1541_c.2.2.2.2.2.2.2.2.1
theorem dL_law_1552 : decode cL_law 1552 = .ok (.aload_n 3, 1) := dL_law_1541_c.2.2.2.2.2.2.2.2.2.1
theorem dL_law_1553 : decode cL_law 1553 = .ok (.invokestatic 214, 3) := dL_law_1541_c.2.2.2.2.2.2.2.2.2.2.1
theorem dL_law_1556 : decode cL_law 1556 = .ok (.istore 5, 2) := dL_law_1541_c.2.2.2.2.2.2.2.2.2.2.2.1
theorem dL_law_1558 : decode cL_law 1558 = .ok (.aload_n 2, 1) := dL_law_1541_c.2.2.2.2.2.2.2.2.2.2.2.2.1
theorem dL_law_1559 : decode cL_law 1559 = .ok (.aload_n 0, 1) := dL_law_1541_c.2.2.2.2.2.2.2.2.2.2.2.2.2.1
theorem dL_law_1560 : decode cL_law 1560 = .ok (.iload 4, 2) := dL_law_1541_c.2.2.2.2.2.2.2.2.2.2.2.2.2.2.1
theorem dL_law_1562 : decode cL_law 1562 = .ok (.iconst 1, 1) := dL_law_1541_c.2.2.2.2.2.2.2.2.2.2.2.2.2.2.2
theorem dL_law_1563_c : decode cL_law 1563 = .ok (.iadd, 1) ∧ decode cL_law 1564 = .ok (.iaload, 1) ∧ decode cL_law 1565 = .ok (.aload_n 0, 1) ∧ decode cL_law 1566 = .ok (.iload 4, 2) ∧ decode cL_law 1568 = .ok (.iconst 2, 1) ∧ decode cL_law 1569 = .ok (.iadd, 1) ∧ decode cL_law 1570 = .ok (.iaload, 1) ∧ decode cL_law 1571 = .ok (.aload_n 0, 1) ∧ decode cL_law 1572 = .ok (.iload 4, 2) ∧ decode cL_law 1574 = .ok (.iconst 3, 1) ∧ decode cL_law 1575 = .ok (.iadd, 1) ∧ decode cL_law 1576 = .ok (.iaload, 1) ∧ decode cL_law 1577 = .ok (.aload_n 0, 1) ∧ decode cL_law 1578 = .ok (.iload 4, 2) ∧ decode cL_law 1580 = .ok (.iconst 4, 1) ∧ decode cL_law 1581 = .ok (.iadd, 1) := by decide +kernel
theorem dL_law_1563 : decode cL_law 1563 = .ok (.iadd, 1) := dL_law_1563_c.1
theorem dL_law_1564 : decode cL_law 1564 = .ok (.iaload, 1) := dL_law_1563_c.2.1
theorem dL_law_1565 : decode cL_law 1565 = .ok (.aload_n 0, 1) := dL_law_1563_c.2.2.1
theorem dL_law_1566 : decode cL_law 1566 = .ok (.iload 4, 2) := dL_law_1563_c.2.2.2.1
theorem dL_law_1568 : decode cL_law 1568 = .ok (.iconst 2, 1) := dL_law_1563_c.2.2.2.2.1
theorem dL_law_1569 : decode cL_law 1569 = .ok (.iadd, 1) := dL_law_1563_c.2.2.2.2.2.1
theorem dL_law_1570 : decode cL_law 1570 = .ok (.iaload, 1) := dL_law_1563_c.2.2.2.2.2.2.1
theorem dL_law_1571 : decode cL_law 1571 = .ok (.aload_n 0, 1) := dL_law_1563_c.2.2.2.2.2.2.2.1
theorem dL_law_1572 : decode cL_law 1572 = .ok (.iload 4, 2) := dL_law_1563_c.2.2.2.2.2.2.2.2.1
theorem dL_law_1574 : decode cL_law 1574 = .ok (.iconst 3, 1) := dL_law_1563_c.2.2.2.2.2.2.2.2.2.1
theorem dL_law_1575 : decode cL_law 1575 = .ok (.iadd, 1) := dL_law_1563_c.2.2.2.2.2.2.2.2.2.2.1
theorem dL_law_1576 : decode cL_law 1576 = .ok (.iaload, 1) := dL_law_1563_c.2.2.2.2.2.2.2.2.2.2.2.1
theorem dL_law_1577 : decode cL_law 1577 = .ok (.aload_n 0, 1) := dL_law_1563_c.2.2.2.2.2.2.2.2.2.2.2.2.1
theorem dL_law_1578 : decode cL_law 1578 = .ok (.iload 4, 2) := dL_law_1563_c.2.2.2.2.2.2.2.2.2.2.2.2.2.1
theorem dL_law_1580 : decode cL_law 1580 = .ok (.iconst 4, 1) := dL_law_1563_c.2.2.2.2.2.2.2.2.2.2.2.2.2.2.1
theorem dL_law_1581 : decode cL_law 1581 = .ok (.iadd, 1) := dL_law_1563_c.2.2.2.2.2.2.2.2.2.2.2.2.2.2.2
theorem dL_law_1582_c : decode cL_law 1582 = .ok (.iaload, 1) ∧ decode cL_law 1583 = .ok (.aload_n 0, 1) ∧ decode cL_law 1584 = .ok (.iload 4, 2) ∧ decode cL_law 1586 = .ok (.iconst 5, 1) ∧ decode cL_law 1587 = .ok (.iadd, 1) ∧ decode cL_law 1588 = .ok (.iaload, 1) ∧ decode cL_law 1589 = .ok (.invokevirtual 217, 3) ∧ decode cL_law 1592 = .ok (.istore 6, 2) ∧ decode cL_law 1594 = .ok (.goto 79, 3) ∧ decode cL_law 1597 = .ok (.aload_n 1, 1) ∧ decode cL_law 1598 = .ok (.invokevirtual 218, 3) ∧ decode cL_law 1601 = .ok (.pop, 1) ∧ decode cL_law 1602 = .ok (.aload_n 2, 1) ∧ decode cL_law 1603 = .ok (.invokevirtual 221, 3) ∧ decode cL_law 1606 = .ok (.pop, 1) ∧ decode cL_law 1607 = .ok (.goto 66, 3) := by decide +kernel
theorem dL_law_1582 : decode cL_law 1582 = .ok (.iaload, 1) := dL_law_1582_c.1
theorem dL_law_1583 : decode cL_law 1583 = .ok (.aload_n 0, 1) := dL_law_1582_c.2.1
theorem dL_law_1584 : decode cL_law 1584 = .ok (.iload 4, 2) := dL_law_1582_c.2.2.1
theorem dL_law_1586 : decode cL_law 1586 = .ok (.iconst 5, 1) := dL_law_1582_c.2.2.2.1
theorem dL_law_1587 : decode cL_law 1587 = .ok (.iadd, 1) := dL_law_1582_c.2.2.2.2.1
theorem dL_law_1588 : decode cL_law 1588 = .ok (.iaload, 1) := dL_law_1582_c.2.2.2.2.2.1
theorem dL_law_1589 : decode cL_law 1589 = .ok (.invokevirtual 217, 3) := dL_law_1582_c.2.2.2.2.2.2.1
theorem dL_law_1592 : decode cL_law 1592 = .ok (.istore 6, 2) := dL_law_1582_c.2.2.2.2.2.2.2.1
theorem dL_law_1594 : decode cL_law 1594 = .ok (.goto 79, 3) := dL_law_1582_c.2.2.2.2.2.2.2.2.1
theorem dL_law_1597 : decode cL_law 1597 = .ok (.aload_n 1, 1) := dL_law_1582_c.2.2.2.2.2.2.2.2.2.1
theorem dL_law_1598 : decode cL_law 1598 = .ok (.invokevirtual 218, 3) := dL_law_1582_c.2.2.2.2.2.2.2.2.2.2.1
theorem dL_law_1601 : decode cL_law 1601 = .ok (.pop, 1) := dL_law_1582_c.2.2.2.2.2.2.2.2.2.2.2.1
theorem dL_law_1602 : decode cL_law 1602 = .ok (.aload_n 2, 1) := dL_law_1582_c.2.2.2.2.2.2.2.2.2.2.2.2.1
theorem dL_law_1603 : decode cL_law 1603 = .ok (.invokevirtual 221, 3) := dL_law_1582_c.2.2.2.2.2.2.2.2.2.2.2.2.2.1
theorem dL_law_1606 : decode cL_law 1606 = .ok (.pop, 1) := dL_law_1582_c.2.2.2.2.2.2.2.2.2.2.2.2.2.2.1
theorem dL_law_1607 : decode cL_law 1607 = .ok (.goto 66, 3) := dL_law_1582_c.2.2.2.2.2.2.2.2.2.2.2.2.2.2.2
theorem dL_law_1610_c : decode cL_law 1610 = .ok (.aload_n 1, 1) ∧ decode cL_law 1611 = .ok (.invokevirtual 222, 3) ∧ decode cL_law 1614 = .ok (.pop, 1) ∧ decode cL_law 1615 = .ok (.aload_n 2, 1) ∧ decode cL_law 1616 = .ok (.invokevirtual 225, 3) ∧ decode cL_law 1619 = .ok (.pop, 1) ∧ decode cL_law 1620 = .ok (.goto 53, 3) ∧ decode cL_law 1623 = .ok (.aload_n 1, 1) ∧ decode cL_law 1624 = .ok (.aload_n 0, 1) ∧ decode cL_law 1625 = .ok (.iload 4, 2) ∧ decode cL_law 1627 = .ok (.iconst 1, 1) ∧ decode cL_law 1628 = .ok (.iadd, 1) ∧ decode cL_law 1629 = .ok (.iaload, 1) ∧ decode cL_law 1630 = .ok (.invokevirtual 226, 3) ∧ decode cL_law 1633 = .ok (.pop, 1) ∧ decode cL_law 1634 = .ok (.aload_n 2, 1) := by decide +kernel
theorem dL_law_1610 : decode cL_law 1610 = .ok (.aload_n 1, 1) := dL_law_1610_c.1
theorem dL_law_1611 : decode cL_law 1611 = .ok (.invokevirtual 222, 3) := dL_law_1610_c.2.1
theorem dL_law_1614 : decode cL_law 1614 = .ok (.pop, 1) := dL_law_1610_c.2.2.1
theorem dL_law_1615 : decode cL_law 1615 = .ok (.aload_n 2, 1) := dL_law_1610_c.2.2.2.1
theorem dL_law_1616 : decode cL_law 1616 = .ok (.invokevirtual 225, 3) := dL_law_1610_c.2.2.2.2.1
theorem dL_law_1619 : decode cL_law 1619 = .ok (.pop, 1) := dL_law_1610_c.2.2.2.2.2.1
theorem dL_law_1620 : decode cL_law 1620 = .ok (.goto 53, 3) := dL_law_1610_c.2.2.2.2.2.2.1
theorem dL_law_1623 : decode cL_law 1623 = .ok (.aload_n 1, 1) := dL_law_1610_c.2.2.2.2.2.2.2.1
theorem dL_law_1624 : decode cL_law 1624 = .ok (.aload_n 0, 1) := dL_law_1610_c.2.2.2.2.2.2.2.2.1
theorem dL_law_1625 : decode cL_law 1625 = .ok (.iload 4, 2) := dL_law_1610_c.2.2.2.2.2.2.2.2.2.1
theorem dL_law_1627 : decode cL_law 1627 = .ok (.iconst 1, 1) := dL_law_1610_c.2.2.2.2.2.2.2.2.2.2.1
theorem dL_law_1628 : decode cL_law 1628 = .ok (.iadd, 1) := dL_law_1610_c.2.2.2.2.2.2.2.2.2.2.2.1
theorem dL_law_1629 : decode cL_law 1629 = .ok (.iaload, 1) := dL_law_1610_c.2.2.2.2.2.2.2.2.2.2.2.2.1
theorem dL_law_1630 : decode cL_law 1630 = .ok (.invokevirtual 226, 3) := dL_law_1610_c.2.2.2.2.2.2.2.2.2.2.2.2.2.1
theorem dL_law_1633 : decode cL_law 1633 = .ok (.pop, 1) := dL_law_1610_c.2.2.2.2.2.2.2.2.2.2.2.2.2.2.1
theorem dL_law_1634 : decode cL_law 1634 = .ok (.aload_n 2, 1) := dL_law_1610_c.2.2.2.2.2.2.2.2.2.2.2.2.2.2.2
theorem dL_law_1635_c : decode cL_law 1635 = .ok (.aload_n 0, 1) ∧ decode cL_law 1636 = .ok (.iload 4, 2) ∧ decode cL_law 1638 = .ok (.iconst 1, 1) ∧ decode cL_law 1639 = .ok (.iadd, 1) ∧ decode cL_law 1640 = .ok (.iaload, 1) ∧ decode cL_law 1641 = .ok (.invokevirtual 229, 3) := by decide +kernel
theorem dL_law_1635 : decode cL_law 1635 = .ok (.aload_n 0, 1) := dL_law_1635_c.1
theorem dL_law_1636 : decode cL_law 1636 = .ok (.iload 4, 2) := dL_law_1635_c.2.1
theorem dL_law_1638 : decode cL_law 1638 = .ok (.iconst 1, 1) := dL_law_1635_c.2.2.1
theorem dL_law_1639 : decode cL_law 1639 = .ok (.iadd, 1) := dL_law_1635_c.2.2.2.1
theorem dL_law_1640 : decode cL_law 1640 = .ok (.iaload, 1) := dL_law_1635_c.2.2.2.2.1
theorem dL_law_1641 : decode cL_law 1641 = .ok (.invokevirtual 229, 3) := dL_law_1635_c.2.2.2.2.2
