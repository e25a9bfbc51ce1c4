theorem dL_law_1467 : decode cL_law 1467 = .ok (.aload_n 3, 1) := by decide +kernel
theorem dL_law_1468 : decode cL_law 1468 = .ok (.iconst 0, 1) := by decide +kernel
theorem dL_law_1469 : decode cL_law 1469 = .ok (.laload, 1) := by decide +kernel
theorem dL_law_1470 : decode cL_law 1470 = .ok (.iload 6, 2) := by decide +kernel
theorem dL_law_1472 : decode cL_law 1472 = .ok (.i2l, 1) := by decide +kernel
theorem dL_law_1473 : decode cL_law 1473 = .ok (.lcmp, 1) := by decide +kernel
theorem dL_law_1474 : decode cL_law 1474 = .ok (.ifCond .eq 5, 3) := by decide +kernel
theorem dL_law_1477 : decode cL_law 1477 = .ok (.iconst 0, 1) := by decide +kernel
theorem dL_law_1478 : decode cL_law 1478 = .ok (.ireturn, 1) := by decide +kernel
theorem dL_law_1479 : decode cL_law 1479 = .ok (.goto 497, 3) := by decide +kernel
theorem dL_law_1482 : decode cL_law 1482 = .ok (.aload_n 1, 1) := by decide +kernel
theorem dL_law_1483 : decode cL_law 1483 = .ok (.aload_n 0, 1) := by decide +kernel
theorem dL_law_1484 : decode cL_law 1484 = .ok (.iload 4, 2) := by decide +kernel
theorem dL_law_1486 : decode cL_law 1486 = .ok (.iconst 1, 1) := by decide +kernel
theorem dL_law_1487 : decode cL_law 1487 = .ok (.iadd, 1) := by decide +kernel
theorem dL_law_1488 : decode cL_law 1488 = .ok (.iaload, 1) := by decide +kernel
theorem dL_law_1489 : decode cL_law 1489 = .ok (.aload_n 0, 1) := by decide +kernel
theorem dL_law_1490 : decode cL_law 1490 = .ok (.iload 4, 2) := by decide +kernel
theorem dL_law_1492 : decode cL_law 1492 = .ok (.iconst 2, 1) := by decide +kernel
theorem dL_law_1493 : decode cL_law 1493 = .ok (.iadd, 1) := by decide +kernel
theorem dL_law_1494 : decode cL_law 1494 = .ok (.iaload, 1) := by decide +kernel
theorem dL_law_1495 : decode cL_law 1495 = .ok (.aload_n 3, 1) := by decide +kernel
theorem dL_law_1496 : decode cL_law 1496 = .ok (.invokestatic 185, 3) := by decide +kernel
theorem dL_law_1499 : decode cL_law 1499 = .ok (.istore 5, 2) := by decide +kernel
theorem dL_law_1501 : decode cL_law 1501 = .ok (.aload_n 2, 1) := by decide +kernel
theorem dL_law_1502 : decode cL_law 1502 = .ok (.aload_n 0, 1) := by decide +kernel
theorem dL_law_1503 : decode cL_law 1503 = .ok (.iload 4, 2) := by decide +kernel
theorem dL_law_1505 : decode cL_law 1505 = .ok (.iconst 1, 1) := by decide +kernel
theorem dL_law_1506 : decode cL_law 1506 = .ok (.iadd, 1) := by decide +kernel
theorem dL_law_1507 : decode cL_law 1507 = .ok (.iaload, 1) := by decide +kernel
theorem dL_law_1508 : decode cL_law 1508 = .ok (.aload_n 0, 1) := by decide +kernel
theorem dL_law_1509 : decode cL_law 1509 = .ok (.iload 4, 2) := by decide +kernel
theorem dL_law_1511 : decode cL_law 1511 = .ok (.iconst 2, 1) := by decide +kernel
theorem dL_law_1512 : decode cL_law 1512 = .ok (.iadd, 1) := by decide +kernel
theorem dL_law_1513 : decode cL_law 1513 = .ok (.iaload, 1) := by decide +kernel
theorem dL_law_1514 : decode cL_law 1514 = .ok (.invokevirtual 187, 3) := by decide +kernel
theorem dL_law_1517 : decode cL_law 1517 = .ok (.istore 6, 2) := by decide +kernel
theorem dL_law_1519 : decode cL_law 1519 = .ok (.aload_n 2, 1) := by decide +kernel
theorem dL_law_1520 : decode cL_law 1520 = .ok (.invokevirtual 102, 3) := by decide +kernel
theorem dL_law_1523 : decode cL_law 1523 = .ok (.iload 5, 2) := by decide +kernel
theorem dL_law_1525 : decode cL_law 1525 = .ok (.if_icmp .eq 5, 3) := by decide +kernel
theorem dL_law_1528 : decode cL_law 1528 = .ok (.iconst 0, 1) := by decide +kernel
theorem dL_law_1529 : decode cL_law 1529 = .ok (.ireturn, 1) := by decide +kernel
theorem dL_law_1530 : decode cL_law 1530 = .ok (.iload 5, 2) := by decide +kernel
theorem dL_law_1532 : decode cL_law 1532 = .ok (.ifCond .ne 15, 3) := by decide +kernel
theorem dL_law_1535 : decode cL_law 1535 = .ok (.aload_n 3, 1) := by decide +kernel
theorem dL_law_1536 : decode cL_law 1536 = .ok (.iconst 0, 1) := by decide +kernel
theorem dL_law_1537 : decode cL_law 1537 = .ok (.laload, 1) := by decide +kernel
theorem dL_law_1538 : decode cL_law 1538 = .ok (.iload 6, 2) := by decide +kernel
theorem dL_law_1540 : decode cL_law 1540 = .ok (.i2l, 1) := by decide +kernel
theorem dL_law_1541 : decode cL_law 1541 = .ok (.lcmp, 1) := by decide +kernel
theorem dL_law_1542 : decode cL_law 1542 = .ok (.ifCond .eq 5, 3) := by decide +kernel
theorem dL_law_1545 : decode cL_law 1545 = .ok (.iconst 0, 1) := by decide +kernel
theorem dL_law_1546 : decode cL_law 1546 = .ok (.ireturn, 1) := by decide +kernel
theorem dL_law_1547 : decode cL_law 1547 = .ok (.goto 429, 3) := by decide +kernel
theorem dL_law_1550 : decode cL_law 1550 = .ok (.aload_n 1, 1) := by decide +kernel
theorem dL_law_1551 : decode cL_law 1551 = .ok (.aload_n 0, 1) := by decide +kernel
theorem dL_law_1552 : decode cL_law 1552 = .ok (.iload 4, 2) := by decide +kernel
theorem dL_law_1554 : decode cL_law 1554 = .ok (.iconst 1, 1) := by decide +kernel
theorem dL_law_1555 : decode cL_law 1555 = .ok (.iadd, 1) := by decide +kernel
