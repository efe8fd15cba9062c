theorem dL_law_1642 : decode cL_law 1642 = .ok (.aload_n 0, 1) := by decide +kernel
theorem dL_law_1643 : decode cL_law 1643 = .ok (.iload 4, 2) := by decide +kernel
theorem dL_law_1645 : decode cL_law 1645 = .ok (.iconst 1, 1) := by decide +kernel
theorem dL_law_1646 : decode cL_law 1646 = .ok (.iadd, 1) := by decide +kernel
theorem dL_law_1647 : decode cL_law 1647 = .ok (.iaload, 1) := by decide +kernel
theorem dL_law_1648 : decode cL_law 1648 = .ok (.invokevirtual 230, 3) := by decide +kernel
theorem dL_law_1651 : decode cL_law 1651 = .ok (.pop, 1) := by decide +kernel
theorem dL_law_1652 : decode cL_law 1652 = .ok (.aload_n 2, 1) := by decide +kernel
theorem dL_law_1653 : decode cL_law 1653 = .ok (.aload_n 0, 1) := by decide +kernel
theorem dL_law_1654 : decode cL_law 1654 = .ok (.iload 4, 2) := by decide +kernel
theorem dL_law_1656 : decode cL_law 1656 = .ok (.iconst 1, 1) := by decide +kernel
theorem dL_law_1657 : decode cL_law 1657 = .ok (.iadd, 1) := by decide +kernel
theorem dL_law_1658 : decode cL_law 1658 = .ok (.iaload, 1) := by decide +kernel
theorem dL_law_1659 : decode cL_law 1659 = .ok (.invokevirtual 233, 3) := by decide +kernel
theorem dL_law_1662 : decode cL_law 1662 = .ok (.pop, 1) := by decide +kernel
theorem dL_law_1663 : decode cL_law 1663 = .ok (.goto 3, 3) := by decide +kernel
theorem dL_law_1666 : decode cL_law 1666 = .ok (.iinc 4 6, 3) := by decide +kernel
theorem dL_law_1669 : decode cL_law 1669 = .ok (.goto (-1646), 3) := by decide +kernel
theorem dL_law_1672 : decode cL_law 1672 = .ok (.iconst 1, 1) := by decide +kernel
theorem dL_law_1673 : decode cL_law 1673 = .ok (.ireturn, 1) := by decide +kernel
