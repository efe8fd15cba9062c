theorem dL_law_1644_c : decode cL_law 1644 = .ok (.pop, 1) ∧ decode cL_law 1645 = .ok (.goto 28, 3) ∧ decode cL_law 1648 = .ok (.aload_n 1, 1) ∧ decode cL_law 1649 = .ok (.aload_n 0, 1) ∧ decode cL_law 1650 = .ok (.iload 4, 2) ∧ decode cL_law 1652 = .ok (.iconst 1, 1) ∧ decode cL_law 1653 = .ok (.iadd, 1) ∧ decode cL_law 1654 = .ok (.iaload, 1) ∧ decode cL_law 1655 = .ok (.invokevirtual 230, 3) ∧ decode cL_law 1658 = .ok (.pop, 1) ∧ decode cL_law 1659 = .ok (.aload_n 2, 1) ∧ decode cL_law 1660 = .ok (.aload_n 0, 1) ∧ decode cL_law 1661 = .ok (.iload 4, 2) ∧ decode cL_law 1663 = .ok (.iconst 1, 1) ∧ decode cL_law 1664 = .ok (.iadd, 1) ∧ decode cL_law 1665 = .ok (.iaload, 1) := by decide +kernel
theorem dL_law_1644 : decode cL_law 1644 = .ok (.pop, 1) := dL_law_1644_c.1
theorem dL_law_1645 : decode cL_law 1645 = .ok (.goto 28, 3) := dL_law_1644_c.2.1
theorem dL_law_1648 : decode cL_law 1648 = .ok (.aload_n 1, 1) := dL_law_1644_c.2.2.1
theorem dL_law_1649 : decode cL_law 1649 = .ok (.aload_n 0, 1) := dL_law_1644_c.2.2.2.1
theorem dL_law_1650 : decode cL_law 1650 = .ok (.iload 4, 2) := dL_law_1644_c.2.2.2.2.1
theorem dL_law_1652 : decode cL_law 1652 = .ok (.iconst 1, 1) := dL_law_1644_c.2.2.2.2.2.1
theorem dL_law_1653 : decode cL_law 1653 = .ok (.iadd, 1) := dL_law_1644_c.2.2.2.2.2.2.1
theorem dL_law_1654 : decode cL_law 1654 = .ok (.iaload, 1) := dL_law_1644_c.2.2.2.2.2.2.2.1
theorem dL_law_1655 : decode cL_law 1655 = .ok (.invokevirtual 230, 3) := dL_law_1644_c.2.2.2.2.2.2.2.2.1
theorem dL_law_1658 : decode cL_law 1658 = .ok (.pop, 1) := dL_law_1644_c.2.2.2.2.2.2.2.2.2.1
theorem dL_law_1659 : decode cL_law 1659 = .ok (.aload_n 2, 1) := dL_law_1644_c.2.2.2.2.2.2.2.2.2.2.1
theorem dL_law_1660 : decode cL_law 1660 = .ok (.aload_n 0, 1) := dL_law_1644_c.2.2.2.2.2.2.2.2.2.2.2.1
theorem dL_law_1661 : decode cL_law 1661 = .ok (.iload 4, 2) := dL_law_1644_c.2.2.2.2.2.2.2.2.2.2.2.2.1
theorem dL_law_1663 : decode cL_law 1663 = .ok (.iconst 1, 1) := dL_law_1644_c.2.2.2.2.2.2.2.2.2.2.2.2.2.1
theorem dL_law_1664 : decode cL_law 1664 = .ok (.iadd, 1) := dL_law_1644_c.2.2.2.2.2.2.2.2.2.2.2.2.2.2.1
theorem dL_law_1665 : decode cL_law 1665 = .ok (.iaload, 1) := dL_law_1644_c.2.2.2.2.2.2.2.2.2.2.2.2.2.2.2
theorem dL_law_1666_c : decode cL_law 1666 = .ok (.invokevirtual 233, 3) ∧ decode cL_law 1669 = .ok (.pop, 1) ∧ decode cL_law 1670 = .ok (.goto 3, 3) ∧ decode cL_law 1673 = .ok (.iinc 4 6, 3) ∧ decode cL_law 1676 = .ok (.goto (-1653), 3) ∧ decode cL_law 1679 = .ok (.iconst 1, 1) ∧ decode cL_law 1680 = .ok (.ireturn, 1) := by decide +kernel
theorem dL_law_1666 : decode cL_law 1666 = .ok (.invokevirtual 233, 3) := dL_law_1666_c.1
theorem dL_law_1669 : decode cL_law 1669 = .ok (.pop, 1) := dL_law_1666_c.2.1
theorem dL_law_1670 : decode cL_law 1670 = .ok (.goto 3, 3) := dL_law_1666_c.2.2.1
theorem dL_law_1673 : decode cL_law 1673 = .ok (.iinc 4 6, 3) := dL_law_1666_c.2.2.2.1
theorem dL_law_1676 : decode cL_law 1676 = .ok (.goto (-1653), 3) := dL_law_1666_c.2.2.2.2.1
theorem dL_law_1679 : decode cL_law 1679 = .ok (.iconst 1, 1) := dL_law_1666_c.2.2.2.2.2.1
theorem dL_law_1680 : decode cL_law 1680 = .ok (.ireturn, 1) := dL_law_1666_c.2.2.2.2.2.2
