theorem dL_law_1564 : decode cL_law 1564 = .ok (.iload_n 3, 1) := by decide +kernel
theorem dL_law_1565 : decode cL_law 1565 = .ok (.iconst 2, 1) := by decide +kernel
theorem dL_law_1566 : decode cL_law 1566 = .ok (.iadd, 1) := by decide +kernel
theorem dL_law_1567 : decode cL_law 1567 = .ok (.iaload, 1) := by decide +kernel
theorem dL_law_1568 : decode cL_law 1568 = .ok (.ifCond .eq 7, 3) := by decide +kernel
theorem dL_law_1571 : decode cL_law 1571 = .ok (.iconst 1, 1) := by decide +kernel
theorem dL_law_1572 : decode cL_law 1572 = .ok (.goto 4, 3) := by decide +kernel
theorem dL_law_1575 : decode cL_law 1575 = .ok (.iconst 0, 1) := by decide +kernel
theorem dL_law_1576 : decode cL_law 1576 = .ok (.invokevirtual 164, 3) := by decide +kernel
theorem dL_law_1579 : decode cL_law 1579 = .ok (.if_icmp .eq 728, 3) := by decide +kernel
theorem dL_law_1582 : decode cL_law 1582 = .ok (.iconst 0, 1) := by decide +kernel
theorem dL_law_1583 : decode cL_law 1583 = .ok (.ireturn, 1) := by decide +kernel
theorem dL_law_1584 : decode cL_law 1584 = .ok (.aload_n 1, 1) := by decide +kernel
theorem dL_law_1585 : decode cL_law 1585 = .ok (.aload_n 0, 1) := by decide +kernel
theorem dL_law_1586 : decode cL_law 1586 = .ok (.iload_n 3, 1) := by decide +kernel
theorem dL_law_1587 : decode cL_law 1587 = .ok (.iconst 1, 1) := by decide +kernel
theorem dL_law_1588 : decode cL_law 1588 = .ok (.iadd, 1) := by decide +kernel
theorem dL_law_1589 : decode cL_law 1589 = .ok (.iaload, 1) := by decide +kernel
theorem dL_law_1590 : decode cL_law 1590 = .ok (.aload_n 0, 1) := by decide +kernel
theorem dL_law_1591 : decode cL_law 1591 = .ok (.iload_n 3, 1) := by decide +kernel
theorem dL_law_1592 : decode cL_law 1592 = .ok (.iconst 2, 1) := by decide +kernel
theorem dL_law_1593 : decode cL_law 1593 = .ok (.iadd, 1) := by decide +kernel
theorem dL_law_1594 : decode cL_law 1594 = .ok (.iaload, 1) := by decide +kernel
theorem dL_law_1595 : decode cL_law 1595 = .ok (.ifCond .eq 7, 3) := by decide +kernel
theorem dL_law_1598 : decode cL_law 1598 = .ok (.iconst 1, 1) := by decide +kernel
theorem dL_law_1599 : decode cL_law 1599 = .ok (.goto 4, 3) := by decide +kernel
theorem dL_law_1602 : decode cL_law 1602 = .ok (.iconst 0, 1) := by decide +kernel
theorem dL_law_1603 : decode cL_law 1603 = .ok (.invokevirtual 165, 3) := by decide +kernel
theorem dL_law_1606 : decode cL_law 1606 = .ok (.aload_n 2, 1) := by decide +kernel
theorem dL_law_1607 : decode cL_law 1607 = .ok (.aload_n 0, 1) := by decide +kernel
theorem dL_law_1608 : decode cL_law 1608 = .ok (.iload_n 3, 1) := by decide +kernel
theorem dL_law_1609 : decode cL_law 1609 = .ok (.iconst 1, 1) := by decide +kernel
theorem dL_law_1610 : decode cL_law 1610 = .ok (.iadd, 1) := by decide +kernel
theorem dL_law_1611 : decode cL_law 1611 = .ok (.iaload, 1) := by decide +kernel
theorem dL_law_1612 : decode cL_law 1612 = .ok (.aload_n 0, 1) := by decide +kernel
theorem dL_law_1613 : decode cL_law 1613 = .ok (.iload_n 3, 1) := by decide +kernel
theorem dL_law_1614 : decode cL_law 1614 = .ok (.iconst 2, 1) := by decide +kernel
theorem dL_law_1615 : decode cL_law 1615 = .ok (.iadd, 1) := by decide +kernel
theorem dL_law_1616 : decode cL_law 1616 = .ok (.iaload, 1) := by decide +kernel
theorem dL_law_1617 : decode cL_law 1617 = .ok (.ifCond .eq 7, 3) := by decide +kernel
theorem dL_law_1620 : decode cL_law 1620 = .ok (.iconst 1, 1) := by decide +kernel
theorem dL_law_1621 : decode cL_law 1621 = .ok (.goto 4, 3) := by decide +kernel
theorem dL_law_1624 : decode cL_law 1624 = .ok (.iconst 0, 1) := by decide +kernel
theorem dL_law_1625 : decode cL_law 1625 = .ok (.invokevirtual 168, 3) := by decide +kernel
theorem dL_law_1628 : decode cL_law 1628 = .ok (.if_icmp .eq 679, 3) := by decide +kernel
theorem dL_law_1631 : decode cL_law 1631 = .ok (.iconst 0, 1) := by decide +kernel
theorem dL_law_1632 : decode cL_law 1632 = .ok (.ireturn, 1) := by decide +kernel
theorem dL_law_1633 : decode cL_law 1633 = .ok (.aload_n 1, 1) := by decide +kernel
theorem dL_law_1634 : decode cL_law 1634 = .ok (.aload_n 0, 1) := by decide +kernel
theorem dL_law_1635 : decode cL_law 1635 = .ok (.iload_n 3, 1) := by decide +kernel
