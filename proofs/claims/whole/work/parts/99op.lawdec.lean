theorem dL_law_1556 : decode cL_law 1556 = .ok (.iaload, 1) := by decide +kernel
theorem dL_law_1557 : decode cL_law 1557 = .ok (.aload_n 3, 1) := by decide +kernel
theorem dL_law_1558 : decode cL_law 1558 = .ok (.invokestatic 188, 3) := by decide +kernel
theorem dL_law_1561 : decode cL_law 1561 = .ok (.istore 5, 2) := by decide +kernel
theorem dL_law_1563 : decode cL_law 1563 = .ok (.aload_n 2, 1) := by decide +kernel
theorem dL_law_1564 : decode cL_law 1564 = .ok (.aload_n 0, 1) := by decide +kernel
theorem dL_law_1565 : decode cL_law 1565 = .ok (.iload 4, 2) := by decide +kernel
theorem dL_law_1567 : decode cL_law 1567 = .ok (.iconst 1, 1) := by decide +kernel
theorem dL_law_1568 : decode cL_law 1568 = .ok (.iadd, 1) := by decide +kernel
theorem dL_law_1569 : decode cL_law 1569 = .ok (.iaload, 1) := by decide +kernel
theorem dL_law_1570 : decode cL_law 1570 = .ok (.invokevirtual 190, 3) := by decide +kernel
theorem dL_law_1573 : decode cL_law 1573 = .ok (.istore 6, 2) := by decide +kernel
theorem dL_law_1575 : decode cL_law 1575 = .ok (.aload_n 2, 1) := by decide +kernel
theorem dL_law_1576 : decode cL_law 1576 = .ok (.invokevirtual 102, 3) := by decide +kernel
theorem dL_law_1579 : decode cL_law 1579 = .ok (.iload 5, 2) := by decide +kernel
theorem dL_law_1581 : decode cL_law 1581 = .ok (.if_icmp .eq 5, 3) := by decide +kernel
theorem dL_law_1584 : decode cL_law 1584 = .ok (.iconst 0, 1) := by decide +kernel
theorem dL_law_1585 : decode cL_law 1585 = .ok (.ireturn, 1) := by decide +kernel
theorem dL_law_1586 : decode cL_law 1586 = .ok (.iload 5, 2) := by decide +kernel
theorem dL_law_1588 : decode cL_law 1588 = .ok (.ifCond .ne 15, 3) := by decide +kernel
theorem dL_law_1591 : decode cL_law 1591 = .ok (.aload_n 3, 1) := by decide +kernel
theorem dL_law_1592 : decode cL_law 1592 = .ok (.iconst 0, 1) := by decide +kernel
theorem dL_law_1593 : decode cL_law 1593 = .ok (.laload, 1) := by decide +kernel
theorem dL_law_1594 : decode cL_law 1594 = .ok (.iload 6, 2) := by decide +kernel
theorem dL_law_1596 : decode cL_law 1596 = .ok (.i2l, 1) := by decide +kernel
theorem dL_law_1597 : decode cL_law 1597 = .ok (.lcmp, 1) := by decide +kernel
theorem dL_law_1598 : decode cL_law 1598 = .ok (.ifCond .eq 5, 3) := by decide +kernel
theorem dL_law_1601 : decode cL_law 1601 = .ok (.iconst 0, 1) := by decide +kernel
theorem dL_law_1602 : decode cL_law 1602 = .ok (.ireturn, 1) := by decide +kernel
theorem dL_law_1603 : decode cL_law 1603 = .ok (.goto 373, 3) := by decide +kernel
theorem dL_law_1606 : decode cL_law 1606 = .ok (.aload_n 1, 1) := by decide +kernel
theorem dL_law_1607 : decode cL_law 1607 = .ok (.invokevirtual 191, 3) := by decide +kernel
theorem dL_law_1610 : decode cL_law 1610 = .ok (.aload_n 2, 1) := by decide +kernel
theorem dL_law_1611 : decode cL_law 1611 = .ok (.invokevirtual 194, 3) := by decide +kernel
theorem dL_law_1614 : decode cL_law 1614 = .ok (.if_icmp .eq 362, 3) := by decide +kernel
theorem dL_law_1617 : decode cL_law 1617 = .ok (.iconst 0, 1) := by decide +kernel
theorem dL_law_1618 : decode cL_law 1618 = .ok (.ireturn, 1) := by decide +kernel
theorem dL_law_1619 : decode cL_law 1619 = .ok (.aload_n 1, 1) := by decide +kernel
theorem dL_law_1620 : decode cL_law 1620 = .ok (.aload_n 0, 1) := by decide +kernel
theorem dL_law_1621 : decode cL_law 1621 = .ok (.iload 4, 2) := by decide +kernel
theorem dL_law_1623 : decode cL_law 1623 = .ok (.iconst 1, 1) := by decide +kernel
theorem dL_law_1624 : decode cL_law 1624 = .ok (.iadd, 1) := by decide +kernel
theorem dL_law_1625 : decode cL_law 1625 = .ok (.iaload, 1) := by decide +kernel
theorem dL_law_1626 : decode cL_law 1626 = .ok (.aload_n 0, 1) := by decide +kernel
theorem dL_law_1627 : decode cL_law 1627 = .ok (.iload 4, 2) := by decide +kernel
theorem dL_law_1629 : decode cL_law 1629 = .ok (.iconst 2, 1) := by decide +kernel
theorem dL_law_1630 : decode cL_law 1630 = .ok (.iadd, 1) := by decide +kernel
theorem dL_law_1631 : decode cL_law 1631 = .ok (.iaload, 1) := by decide +kernel
theorem dL_law_1632 : decode cL_law 1632 = .ok (.invokevirtual 195, 3) := by decide +kernel
theorem dL_law_1635 : decode cL_law 1635 = .ok (.aload_n 2, 1) := by decide +kernel
theorem dL_law_1636 : decode cL_law 1636 = .ok (.aload_n 0, 1) := by decide +kernel
theorem dL_law_1637 : decode cL_law 1637 = .ok (.iload 4, 2) := by decide +kernel
theorem dL_law_1639 : decode cL_law 1639 = .ok (.iconst 1, 1) := by decide +kernel
theorem dL_law_1640 : decode cL_law 1640 = .ok (.iadd, 1) := by decide +kernel
theorem dL_law_1641 : decode cL_law 1641 = .ok (.iaload, 1) := by decide +kernel
theorem dL_law_1642 : decode cL_law 1642 = .ok (.aload_n 0, 1) := by decide +kernel
theorem dL_law_1643 : decode cL_law 1643 = .ok (.iload 4, 2) := by decide +kernel
theorem dL_law_1645 : decode cL_law 1645 = .ok (.iconst 2, 1) := by decide +kernel
theorem dL_law_1646 : decode cL_law 1646 = .ok (.iadd, 1) := by decide +kernel
theorem dL_law_1647 : decode cL_law 1647 = .ok (.iaload, 1) := by decide +kernel
