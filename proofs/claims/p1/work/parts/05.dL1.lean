theorem dL_law_1582 : decode cL_law 1582 = .ok (.if_icmp .eq 5, 3) := by decide +kernel
theorem dL_law_1587 : decode cL_law 1587 = .ok (.iload 5, 2) := by decide +kernel
theorem dL_law_1589 : decode cL_law 1589 = .ok (.ifCond .ne 15, 3) := by decide +kernel
theorem dL_law_1604 : decode cL_law 1604 = .ok (.goto 261, 3) := by decide +kernel
theorem dL_law_1607 : decode cL_law 1607 = .ok (.aload_n 1, 1) := by decide +kernel
theorem dL_law_1608 : decode cL_law 1608 = .ok (.aload_n 0, 1) := by decide +kernel
theorem dL_law_1609 : decode cL_law 1609 = .ok (.iload 4, 2) := by decide +kernel
theorem dL_law_1611 : decode cL_law 1611 = .ok (.iconst 1, 1) := by decide +kernel
theorem dL_law_1612 : decode cL_law 1612 = .ok (.iadd, 1) := by decide +kernel
theorem dL_law_1613 : decode cL_law 1613 = .ok (.iaload, 1) := by decide +kernel
theorem dL_law_1614 : decode cL_law 1614 = .ok (.aload_n 3, 1) := by decide +kernel
theorem dL_law_1615 : decode cL_law 1615 = .ok (.invokestatic 177, 3) := by decide +kernel
theorem dL_law_1618 : decode cL_law 1618 = .ok (.istore 5, 2) := by decide +kernel
theorem dL_law_1620 : decode cL_law 1620 = .ok (.aload_n 2, 1) := by decide +kernel
theorem dL_law_1621 : decode cL_law 1621 = .ok (.aload_n 0, 1) := by decide +kernel
theorem dL_law_1622 : decode cL_law 1622 = .ok (.iload 4, 2) := by decide +kernel
theorem dL_law_1624 : decode cL_law 1624 = .ok (.iconst 1, 1) := by decide +kernel
theorem dL_law_1625 : decode cL_law 1625 = .ok (.iadd, 1) := by decide +kernel
theorem dL_law_1626 : decode cL_law 1626 = .ok (.iaload, 1) := by decide +kernel
theorem dL_law_1627 : decode cL_law 1627 = .ok (.invokevirtual 179, 3) := by decide +kernel
theorem dL_law_1630 : decode cL_law 1630 = .ok (.lstore 6, 2) := by decide +kernel
theorem dL_law_1632 : decode cL_law 1632 = .ok (.aload_n 2, 1) := by decide +kernel
theorem dL_law_1633 : decode cL_law 1633 = .ok (.invokevirtual 110, 3) := by decide +kernel
theorem dL_law_1636 : decode cL_law 1636 = .ok (.iload 5, 2) := by decide +kernel
theorem dL_law_1638 : decode cL_law 1638 = .ok (.if_icmp .eq 5, 3) := by decide +kernel
theorem dL_law_1643 : decode cL_law 1643 = .ok (.iload 5, 2) := by decide +kernel
theorem dL_law_1645 : decode cL_law 1645 = .ok (.ifCond .ne 14, 3) := by decide +kernel
theorem dL_law_1659 : decode cL_law 1659 = .ok (.goto 206, 3) := by decide +kernel
theorem dL_law_1662 : decode cL_law 1662 = .ok (.aload_n 1, 1) := by decide +kernel
theorem dL_law_1663 : decode cL_law 1663 = .ok (.aload_n 0, 1) := by decide +kernel
theorem dL_law_1664 : decode cL_law 1664 = .ok (.iload 4, 2) := by decide +kernel
theorem dL_law_1666 : decode cL_law 1666 = .ok (.iconst 1, 1) := by decide +kernel
theorem dL_law_1667 : decode cL_law 1667 = .ok (.iadd, 1) := by decide +kernel
theorem dL_law_1668 : decode cL_law 1668 = .ok (.iaload, 1) := by decide +kernel
theorem dL_law_1669 : decode cL_law 1669 = .ok (.aload_n 3, 1) := by decide +kernel
theorem dL_law_1670 : decode cL_law 1670 = .ok (.invokestatic 180, 3) := by decide +kernel
theorem dL_law_1673 : decode cL_law 1673 = .ok (.istore 5, 2) := by decide +kernel
theorem dL_law_1675 : decode cL_law 1675 = .ok (.aload_n 2, 1) := by decide +kernel
theorem dL_law_1676 : decode cL_law 1676 = .ok (.aload_n 0, 1) := by decide +kernel
theorem dL_law_1677 : decode cL_law 1677 = .ok (.iload 4, 2) := by decide +kernel
theorem dL_law_1679 : decode cL_law 1679 = .ok (.iconst 1, 1) := by decide +kernel
theorem dL_law_1680 : decode cL_law 1680 = .ok (.iadd, 1) := by decide +kernel
theorem dL_law_1681 : decode cL_law 1681 = .ok (.iaload, 1) := by decide +kernel
theorem dL_law_1682 : decode cL_law 1682 = .ok (.invokevirtual 182, 3) := by decide +kernel
theorem dL_law_1685 : decode cL_law 1685 = .ok (.lstore 6, 2) := by decide +kernel
theorem dL_law_1687 : decode cL_law 1687 = .ok (.aload_n 2, 1) := by decide +kernel
theorem dL_law_1688 : decode cL_law 1688 = .ok (.invokevirtual 110, 3) := by decide +kernel
theorem dL_law_1691 : decode cL_law 1691 = .ok (.iload 5, 2) := by decide +kernel
theorem dL_law_1693 : decode cL_law 1693 = .ok (.if_icmp .eq 5, 3) := by decide +kernel
theorem dL_law_1698 : decode cL_law 1698 = .ok (.iload 5, 2) := by decide +kernel
theorem dL_law_1700 : decode cL_law 1700 = .ok (.ifCond .ne 14, 3) := by decide +kernel
theorem dL_law_1714 : decode cL_law 1714 = .ok (.goto 151, 3) := by decide +kernel
theorem dL_law_1717 : decode cL_law 1717 = .ok (.aload_n 1, 1) := by decide +kernel
theorem dL_law_1718 : decode cL_law 1718 = .ok (.invokevirtual 183, 3) := by decide +kernel
theorem dL_law_1721 : decode cL_law 1721 = .ok (.aload_n 2, 1) := by decide +kernel
theorem dL_law_1722 : decode cL_law 1722 = .ok (.invokevirtual 186, 3) := by decide +kernel
theorem dL_law_1725 : decode cL_law 1725 = .ok (.if_icmp .eq 140, 3) := by decide +kernel
theorem dL_law_1730 : decode cL_law 1730 = .ok (.aload_n 1, 1) := by decide +kernel
theorem dL_law_1731 : decode cL_law 1731 = .ok (.aload_n 0, 1) := by decide +kernel
theorem dL_law_1732 : decode cL_law 1732 = .ok (.iload 4, 2) := by decide +kernel
theorem dL_law_1734 : decode cL_law 1734 = .ok (.iconst 1, 1) := by decide +kernel
theorem dL_law_1735 : decode cL_law 1735 = .ok (.iadd, 1) := by decide +kernel
theorem dL_law_1736 : decode cL_law 1736 = .ok (.iaload, 1) := by decide +kernel
theorem dL_law_1737 : decode cL_law 1737 = .ok (.aload_n 0, 1) := by decide +kernel
theorem dL_law_1738 : decode cL_law 1738 = .ok (.iload 4, 2) := by decide +kernel
theorem dL_law_1740 : decode cL_law 1740 = .ok (.iconst 2, 1) := by decide +kernel
theorem dL_law_1741 : decode cL_law 1741 = .ok (.iadd, 1) := by decide +kernel
theorem dL_law_1742 : decode cL_law 1742 = .ok (.iaload, 1) := by decide +kernel
theorem dL_law_1743 : decode cL_law 1743 = .ok (.aload_n 3, 1) := by decide +kernel
theorem dL_law_1744 : decode cL_law 1744 = .ok (.invokestatic 187, 3) := by decide +kernel
theorem dL_law_1747 : decode cL_law 1747 = .ok (.istore 5, 2) := by decide +kernel
theorem dL_law_1749 : decode cL_law 1749 = .ok (.aload_n 2, 1) := by decide +kernel
theorem dL_law_1750 : decode cL_law 1750 = .ok (.aload_n 0, 1) := by decide +kernel
theorem dL_law_1751 : decode cL_law 1751 = .ok (.iload 4, 2) := by decide +kernel
theorem dL_law_1753 : decode cL_law 1753 = .ok (.iconst 1, 1) := by decide +kernel
theorem dL_law_1754 : decode cL_law 1754 = .ok (.iadd, 1) := by decide +kernel
theorem dL_law_1755 : decode cL_law 1755 = .ok (.iaload, 1) := by decide +kernel
theorem dL_law_1756 : decode cL_law 1756 = .ok (.aload_n 0, 1) := by decide +kernel
theorem dL_law_1757 : decode cL_law 1757 = .ok (.iload 4, 2) := by decide +kernel
theorem dL_law_1759 : decode cL_law 1759 = .ok (.iconst 2, 1) := by decide +kernel
theorem dL_law_1760 : decode cL_law 1760 = .ok (.iadd, 1) := by decide +kernel
theorem dL_law_1761 : decode cL_law 1761 = .ok (.iaload, 1) := by decide +kernel
theorem dL_law_1762 : decode cL_law 1762 = .ok (.invokevirtual 189, 3) := by decide +kernel
theorem dL_law_1765 : decode cL_law 1765 = .ok (.istore 6, 2) := by decide +kernel
theorem dL_law_1767 : decode cL_law 1767 = .ok (.aload_n 2, 1) := by decide +kernel
theorem dL_law_1768 : decode cL_law 1768 = .ok (.invokevirtual 110, 3) := by decide +kernel
theorem dL_law_1771 : decode cL_law 1771 = .ok (.iload 5, 2) := by decide +kernel
theorem dL_law_1773 : decode cL_law 1773 = .ok (.if_icmp .eq 5, 3) := by decide +kernel
theorem dL_law_1778 : decode cL_law 1778 = .ok (.iload 5, 2) := by decide +kernel
theorem dL_law_1780 : decode cL_law 1780 = .ok (.ifCond .ne 15, 3) := by decide +kernel
theorem dL_law_1795 : decode cL_law 1795 = .ok (.goto 70, 3) := by decide +kernel
theorem dL_law_1798 : decode cL_law 1798 = .ok (.aload_n 1, 1) := by decide +kernel
theorem dL_law_1799 : decode cL_law 1799 = .ok (.aload_n 0, 1) := by decide +kernel
theorem dL_law_1800 : decode cL_law 1800 = .ok (.iload 4, 2) := by decide +kernel
theorem dL_law_1802 : decode cL_law 1802 = .ok (.iconst 1, 1) := by decide +kernel
theorem dL_law_1803 : decode cL_law 1803 = .ok (.iadd, 1) := by decide +kernel
theorem dL_law_1804 : decode cL_law 1804 = .ok (.iaload, 1) := by decide +kernel
theorem dL_law_1805 : decode cL_law 1805 = .ok (.aload_n 3, 1) := by decide +kernel
theorem dL_law_1806 : decode cL_law 1806 = .ok (.invokestatic 190, 3) := by decide +kernel
theorem dL_law_1809 : decode cL_law 1809 = .ok (.istore 5, 2) := by decide +kernel
theorem dL_law_1811 : decode cL_law 1811 = .ok (.aload_n 2, 1) := by decide +kernel
theorem dL_law_1812 : decode cL_law 1812 = .ok (.aload_n 0, 1) := by decide +kernel
theorem dL_law_1813 : decode cL_law 1813 = .ok (.iload 4, 2) := by decide +kernel
theorem dL_law_1815 : decode cL_law 1815 = .ok (.iconst 1, 1) := by decide +kernel
theorem dL_law_1816 : decode cL_law 1816 = .ok (.iadd, 1) := by decide +kernel
theorem dL_law_1817 : decode cL_law 1817 = .ok (.iaload, 1) := by decide +kernel
theorem dL_law_1818 : decode cL_law 1818 = .ok (.invokevirtual 192, 3) := by decide +kernel
theorem dL_law_1821 : decode cL_law 1821 = .ok (.istore 6, 2) := by decide +kernel
theorem dL_law_1823 : decode cL_law 1823 = .ok (.aload_n 2, 1) := by decide +kernel
theorem dL_law_1824 : decode cL_law 1824 = .ok (.invokevirtual 110, 3) := by decide +kernel
theorem dL_law_1827 : decode cL_law 1827 = .ok (.iload 5, 2) := by decide +kernel
theorem dL_law_1829 : decode cL_law 1829 = .ok (.if_icmp .eq 5, 3) := by decide +kernel
theorem dL_law_1834 : decode cL_law 1834 = .ok (.iload 5, 2) := by decide +kernel
theorem dL_law_1836 : decode cL_law 1836 = .ok (.ifCond .ne 15, 3) := by decide +kernel
theorem dL_law_1839 : decode cL_law 1839 = .ok (.aload_n 3, 1) := by decide +kernel
theorem dL_law_1840 : decode cL_law 1840 = .ok (.iconst 0, 1) := by decide +kernel
theorem dL_law_1841 : decode cL_law 1841 = .ok (.laload, 1) := by decide +kernel
theorem dL_law_1842 : decode cL_law 1842 = .ok (.iload 6, 2) := by decide +kernel
theorem dL_law_1844 : decode cL_law 1844 = .ok (.i2l, 1) := by decide +kernel
theorem dL_law_1845 : decode cL_law 1845 = .ok (.lcmp, 1) := by decide +kernel
theorem dL_law_1846 : decode cL_law 1846 = .ok (.ifCond .eq 5, 3) := by decide +kernel
theorem dL_law_1851 : decode cL_law 1851 = .ok (.goto 14, 3) := by decide +kernel
theorem dL_law_1854 : decode cL_law 1854 = .ok (.aload_n 1, 1) := by decide +kernel
theorem dL_law_1855 : decode cL_law 1855 = .ok (.invokevirtual 193, 3) := by decide +kernel
theorem dL_law_1858 : decode cL_law 1858 = .ok (.aload_n 2, 1) := by decide +kernel
theorem dL_law_1859 : decode cL_law 1859 = .ok (.invokevirtual 196, 3) := by decide +kernel
theorem dL_law_1862 : decode cL_law 1862 = .ok (.goto 3, 3) := by decide +kernel
theorem dL_law_1865 : decode cL_law 1865 = .ok (.iinc 4 10, 3) := by decide +kernel
theorem dL_law_1868 : decode cL_law 1868 = .ok (.goto (-1835), 3) := by decide +kernel
theorem dL_law_1871 : decode cL_law 1871 = .ok (.iconst 1, 1) := by decide +kernel
theorem dL_law_1872 : decode cL_law 1872 = .ok (.ireturn, 1) := by decide +kernel
theorem dL_log_0 : decode cL_log 0 = .ok (.aload_n 3, 1) := by decide +kernel
theorem dL_log_1 : decode cL_log 1 = .ok (.iconst 0, 1) := by decide +kernel
theorem dL_log_2 : decode cL_log 2 = .ok (.aload_n 0, 1) := by decide +kernel
theorem dL_log_3 : decode cL_log 3 = .ok (.iload_n 1, 1) := by decide +kernel
theorem dL_log_4 : decode cL_log 4 = .ok (.iload_n 2, 1) := by decide +kernel
theorem dL_log_5 : decode cL_log 5 = .ok (.invokevirtual 87, 3) := by decide +kernel
theorem dL_log_13 : decode cL_log 13 = .ok (.astore 4, 2) := by decide +kernel
theorem dL_log_15 : decode cL_log 15 = .ok (.iconst 1, 1) := by decide +kernel
theorem dL_log_16 : decode cL_log 16 = .ok (.ireturn, 1) := by decide +kernel
theorem dL_make_0 : decode cL_make 0 = .ok (.aload 7, 2) := by decide +kernel
theorem dL_make_2 : decode cL_make 2 = .ok (.iconst 0, 1) := by decide +kernel
theorem dL_make_3 : decode cL_make 3 = .ok (.aload_n 0, 1) := by decide +kernel
theorem dL_make_4 : decode cL_make 4 = .ok (.iload_n 1, 1) := by decide +kernel
theorem dL_make_5 : decode cL_make 5 = .ok (.iload_n 2, 1) := by decide +kernel
theorem dL_make_6 : decode cL_make 6 = .ok (.iload_n 3, 1) := by decide +kernel
theorem dL_make_7 : decode cL_make 7 = .ok (.iload 4, 2) := by decide +kernel
theorem dL_make_9 : decode cL_make 9 = .ok (.iload 5, 2) := by decide +kernel
theorem dL_make_11 : decode cL_make 11 = .ok (.iload 6, 2) := by decide +kernel
theorem dL_make_13 : decode cL_make 13 = .ok (.invokevirtual 31, 3) := by decide +kernel
theorem dL_make_16 : decode cL_make 16 = .ok (.i2l, 1) := by decide +kernel
theorem dL_make_17 : decode cL_make 17 = .ok (.lastore, 1) := by decide +kernel
theorem dL_make_18 : decode cL_make 18 = .ok (.goto 7, 3) := by decide +kernel
theorem dL_make_21 : decode cL_make 21 = .ok (.astore 8, 2) := by decide +kernel
theorem dL_make_23 : decode cL_make 23 = .ok (.iconst 1, 1) := by decide +kernel
theorem dL_make_24 : decode cL_make 24 = .ok (.ireturn, 1) := by decide +kernel
theorem dL_make_25 : decode cL_make 25 = .ok (.iconst 0, 1) := by decide +kernel
theorem dL_make_26 : decode cL_make 26 = .ok (.ireturn, 1) := by decide +kernel
theorem dL_meaning_0 : decode cL_meaning 0 = .ok (.aload_n 2, 1) := by decide +kernel
theorem dL_meaning_1 : decode cL_meaning 1 = .ok (.iconst 0, 1) := by decide +kernel
theorem dL_meaning_2 : decode cL_meaning 2 = .ok (.aload_n 0, 1) := by decide +kernel
theorem dL_meaning_3 : decode cL_meaning 3 = .ok (.iload_n 1, 1) := by decide +kernel
theorem dL_meaning_4 : decode cL_meaning 4 = .ok (.invokevirtual 68, 3) := by decide +kernel
theorem dL_meaning_7 : decode cL_meaning 7 = .ok (.i2l, 1) := by decide +kernel
theorem dL_meaning_8 : decode cL_meaning 8 = .ok (.lastore, 1) := by decide +kernel
theorem dL_meaning_9 : decode cL_meaning 9 = .ok (.goto 6, 3) := by decide +kernel
theorem dL_meaning_12 : decode cL_meaning 12 = .ok (.astore_n 3, 1) := by decide +kernel
theorem dL_meaning_13 : decode cL_meaning 13 = .ok (.iconst 1, 1) := by decide +kernel
theorem dL_meaning_14 : decode cL_meaning 14 = .ok (.ireturn, 1) := by decide +kernel
theorem dL_meaning_15 : decode cL_meaning 15 = .ok (.iconst 0, 1) := by decide +kernel
theorem dL_meaning_16 : decode cL_meaning 16 = .ok (.ireturn, 1) := by decide +kernel
theorem dL_meant_0 : decode cL_meant 0 = .ok (.aload_n 0, 1) := by decide +kernel
theorem dL_meant_1 : decode cL_meant 1 = .ok (.iload_n 1, 1) := by decide +kernel
theorem dL_meant_2 : decode cL_meant 2 = .ok (.iload_n 2, 1) := by decide +kernel
theorem dL_meant_3 : decode cL_meant 3 = .ok (.iload_n 3, 1) := by decide +kernel
theorem dL_meant_4 : decode cL_meant 4 = .ok (.invokevirtual 46, 3) := by decide +kernel
theorem dL_meant_7 : decode cL_meant 7 = .ok (.goto 7, 3) := by decide +kernel
theorem dL_meant_10 : decode cL_meant 10 = .ok (.astore 4, 2) := by decide +kernel
theorem dL_meant_12 : decode cL_meant 12 = .ok (.iconst 1, 1) := by decide +kernel
theorem dL_meant_13 : decode cL_meant 13 = .ok (.ireturn, 1) := by decide +kernel
theorem dL_meant_14 : decode cL_meant 14 = .ok (.iconst 0, 1) := by decide +kernel
theorem dL_meant_15 : decode cL_meant 15 = .ok (.ireturn, 1) := by decide +kernel
theorem dL_peer_0 : decode cL_peer 0 = .ok (.aload_n 3, 1) := by decide +kernel
theorem dL_peer_1 : decode cL_peer 1 = .ok (.iconst 0, 1) := by decide +kernel
theorem dL_peer_2 : decode cL_peer 2 = .ok (.aload_n 0, 1) := by decide +kernel
theorem dL_peer_3 : decode cL_peer 3 = .ok (.iload_n 1, 1) := by decide +kernel
theorem dL_peer_4 : decode cL_peer 4 = .ok (.iload_n 2, 1) := by decide +kernel
theorem dL_peer_5 : decode cL_peer 5 = .ok (.invokevirtual 43, 3) := by decide +kernel
theorem dL_peer_8 : decode cL_peer 8 = .ok (.i2l, 1) := by decide +kernel
theorem dL_peer_9 : decode cL_peer 9 = .ok (.lastore, 1) := by decide +kernel
theorem dL_peer_10 : decode cL_peer 10 = .ok (.goto 7, 3) := by decide +kernel
theorem dL_peer_13 : decode cL_peer 13 = .ok (.astore 4, 2) := by decide +kernel
theorem dL_peer_15 : decode cL_peer 15 = .ok (.iconst 1, 1) := by decide +kernel
theorem dL_peer_16 : decode cL_peer 16 = .ok (.ireturn, 1) := by decide +kernel
theorem dL_peer_17 : decode cL_peer 17 = .ok (.iconst 0, 1) := by decide +kernel
theorem dL_peer_18 : decode cL_peer 18 = .ok (.ireturn, 1) := by decide +kernel
theorem dL_poke_0 : decode cL_poke 0 = .ok (.aload_n 3, 1) := by decide +kernel
theorem dL_poke_1 : decode cL_poke 1 = .ok (.iconst 0, 1) := by decide +kernel
theorem dL_poke_2 : decode cL_poke 2 = .ok (.aload_n 0, 1) := by decide +kernel
theorem dL_poke_3 : decode cL_poke 3 = .ok (.iload_n 1, 1) := by decide +kernel
theorem dL_poke_4 : decode cL_poke 4 = .ok (.iload_n 2, 1) := by decide +kernel
theorem dL_poke_5 : decode cL_poke 5 = .ok (.invokevirtual 21, 3) := by decide +kernel
theorem dL_poke_13 : decode cL_poke 13 = .ok (.astore 4, 2) := by decide +kernel
theorem dL_poke_15 : decode cL_poke 15 = .ok (.iconst 1, 1) := by decide +kernel
theorem dL_poke_16 : decode cL_poke 16 = .ok (.ireturn, 1) := by decide +kernel
theorem dL_policy_0 : decode cL_policy 0 = .ok (.aload 7, 2) := by decide +kernel
theorem dL_policy_2 : decode cL_policy 2 = .ok (.iconst 0, 1) := by decide +kernel
theorem dL_policy_3 : decode cL_policy 3 = .ok (.aload_n 0, 1) := by decide +kernel
theorem dL_policy_4 : decode cL_policy 4 = .ok (.iload_n 1, 1) := by decide +kernel
theorem dL_policy_5 : decode cL_policy 5 = .ok (.iload_n 2, 1) := by decide +kernel
theorem dL_policy_6 : decode cL_policy 6 = .ok (.iload_n 3, 1) := by decide +kernel
theorem dL_policy_7 : decode cL_policy 7 = .ok (.iload 4, 2) := by decide +kernel
theorem dL_policy_9 : decode cL_policy 9 = .ok (.iload 5, 2) := by decide +kernel
theorem dL_policy_11 : decode cL_policy 11 = .ok (.iload 6, 2) := by decide +kernel
theorem dL_policy_13 : decode cL_policy 13 = .ok (.invokevirtual 50, 3) := by decide +kernel
theorem dL_policy_16 : decode cL_policy 16 = .ok (.i2l, 1) := by decide +kernel
theorem dL_policy_17 : decode cL_policy 17 = .ok (.lastore, 1) := by decide +kernel
theorem dL_policy_18 : decode cL_policy 18 = .ok (.goto 11, 3) := by decide +kernel
theorem dL_policy_21 : decode cL_policy 21 = .ok (.astore 8, 2) := by decide +kernel
theorem dL_policy_23 : decode cL_policy 23 = .ok (.iconst 1, 1) := by decide +kernel
theorem dL_policy_24 : decode cL_policy 24 = .ok (.ireturn, 1) := by decide +kernel
theorem dL_policy_29 : decode cL_policy 29 = .ok (.iconst 0, 1) := by decide +kernel
theorem dL_policy_30 : decode cL_policy 30 = .ok (.ireturn, 1) := by decide +kernel
theorem dL_route_0 : decode cL_route 0 = .ok (.aload 4, 2) := by decide +kernel
theorem dL_route_2 : decode cL_route 2 = .ok (.iconst 0, 1) := by decide +kernel
theorem dL_route_3 : decode cL_route 3 = .ok (.aload_n 0, 1) := by decide +kernel
theorem dL_route_4 : decode cL_route 4 = .ok (.iload_n 1, 1) := by decide +kernel
theorem dL_route_5 : decode cL_route 5 = .ok (.iload_n 2, 1) := by decide +kernel
theorem dL_route_6 : decode cL_route 6 = .ok (.iload_n 3, 1) := by decide +kernel
theorem dL_route_7 : decode cL_route 7 = .ok (.invokevirtual 39, 3) := by decide +kernel
theorem dL_route_10 : decode cL_route 10 = .ok (.i2l, 1) := by decide +kernel
theorem dL_route_11 : decode cL_route 11 = .ok (.lastore, 1) := by decide +kernel
theorem dL_route_12 : decode cL_route 12 = .ok (.goto 11, 3) := by decide +kernel
theorem dL_route_15 : decode cL_route 15 = .ok (.astore 5, 2) := by decide +kernel
theorem dL_route_17 : decode cL_route 17 = .ok (.iconst 1, 1) := by decide +kernel
theorem dL_route_18 : decode cL_route 18 = .ok (.ireturn, 1) := by decide +kernel
theorem dL_route_23 : decode cL_route 23 = .ok (.iconst 0, 1) := by decide +kernel
theorem dL_route_24 : decode cL_route 24 = .ok (.ireturn, 1) := by decide +kernel
theorem dL_seal_0 : decode cL_seal 0 = .ok (.aload 10, 2) := by decide +kernel
theorem dL_seal_2 : decode cL_seal 2 = .ok (.iconst 0, 1) := by decide +kernel
theorem dL_seal_3 : decode cL_seal 3 = .ok (.aload_n 0, 1) := by decide +kernel
theorem dL_seal_4 : decode cL_seal 4 = .ok (.iload_n 1, 1) := by decide +kernel
theorem dL_seal_5 : decode cL_seal 5 = .ok (.iload_n 2, 1) := by decide +kernel
theorem dL_seal_6 : decode cL_seal 6 = .ok (.iload_n 3, 1) := by decide +kernel
theorem dL_seal_7 : decode cL_seal 7 = .ok (.lload 4, 2) := by decide +kernel
theorem dL_seal_9 : decode cL_seal 9 = .ok (.lload 6, 2) := by decide +kernel
theorem dL_seal_11 : decode cL_seal 11 = .ok (.iload 8, 2) := by decide +kernel
theorem dL_seal_13 : decode cL_seal 13 = .ok (.iload 9, 2) := by decide +kernel
theorem dL_seal_15 : decode cL_seal 15 = .ok (.invokevirtual 53, 3) := by decide +kernel
theorem dL_seal_18 : decode cL_seal 18 = .ok (.i2l, 1) := by decide +kernel
theorem dL_seal_19 : decode cL_seal 19 = .ok (.lastore, 1) := by decide +kernel
theorem dL_seal_20 : decode cL_seal 20 = .ok (.goto 15, 3) := by decide +kernel
theorem dL_seal_23 : decode cL_seal 23 = .ok (.astore 11, 2) := by decide +kernel
theorem dL_seal_25 : decode cL_seal 25 = .ok (.iconst 1, 1) := by decide +kernel
theorem dL_seal_26 : decode cL_seal 26 = .ok (.ireturn, 1) := by decide +kernel
theorem dL_seal_27 : decode cL_seal 27 = .ok (.astore 11, 2) := by decide +kernel
theorem dL_seal_29 : decode cL_seal 29 = .ok (.iconst 2, 1) := by decide +kernel
theorem dL_seal_30 : decode cL_seal 30 = .ok (.ireturn, 1) := by decide +kernel
theorem dL_seal_35 : decode cL_seal 35 = .ok (.iconst 0, 1) := by decide +kernel
theorem dL_seal_36 : decode cL_seal 36 = .ok (.ireturn, 1) := by decide +kernel
theorem dL_seen_0 : decode cL_seen 0 = .ok (.aload_n 2, 1) := by decide +kernel
theorem dL_seen_1 : decode cL_seen 1 = .ok (.iconst 0, 1) := by decide +kernel
theorem dL_seen_2 : decode cL_seen 2 = .ok (.aload_n 0, 1) := by decide +kernel
theorem dL_seen_3 : decode cL_seen 3 = .ok (.iload_n 1, 1) := by decide +kernel
theorem dL_seen_4 : decode cL_seen 4 = .ok (.invokevirtual 84, 3) := by decide +kernel
theorem dL_seen_11 : decode cL_seen 11 = .ok (.astore_n 3, 1) := by decide +kernel
theorem dL_seen_12 : decode cL_seen 12 = .ok (.iconst 1, 1) := by decide +kernel
theorem dL_seen_13 : decode cL_seen 13 = .ok (.ireturn, 1) := by decide +kernel
theorem dL_sent_0 : decode cL_sent 0 = .ok (.aload_n 3, 1) := by decide +kernel
theorem dL_sent_1 : decode cL_sent 1 = .ok (.iconst 0, 1) := by decide +kernel
theorem dL_sent_2 : decode cL_sent 2 = .ok (.aload_n 0, 1) := by decide +kernel
theorem dL_sent_3 : decode cL_sent 3 = .ok (.iload_n 1, 1) := by decide +kernel
theorem dL_sent_4 : decode cL_sent 4 = .ok (.iload_n 2, 1) := by decide +kernel
theorem dL_sent_5 : decode cL_sent 5 = .ok (.invokevirtual 71, 3) := by decide +kernel
theorem dL_sent_8 : decode cL_sent 8 = .ok (.i2l, 1) := by decide +kernel
theorem dL_sent_9 : decode cL_sent 9 = .ok (.lastore, 1) := by decide +kernel
theorem dL_sent_10 : decode cL_sent 10 = .ok (.goto 7, 3) := by decide +kernel
theorem dL_sent_13 : decode cL_sent 13 = .ok (.astore 4, 2) := by decide +kernel
theorem dL_sent_15 : decode cL_sent 15 = .ok (.iconst 1, 1) := by decide +kernel
theorem dL_sent_16 : decode cL_sent 16 = .ok (.ireturn, 1) := by decide +kernel
theorem dL_sent_17 : decode cL_sent 17 = .ok (.iconst 0, 1) := by decide +kernel
theorem dL_sent_18 : decode cL_sent 18 = .ok (.ireturn, 1) := by decide +kernel
theorem dL_stop_0 : decode cL_stop 0 = .ok (.aload_n 2, 1) := by decide +kernel
theorem dL_stop_1 : decode cL_stop 1 = .ok (.iconst 0, 1) := by decide +kernel
theorem dL_stop_2 : decode cL_stop 2 = .ok (.aload_n 0, 1) := by decide +kernel
theorem dL_stop_3 : decode cL_stop 3 = .ok (.iload_n 1, 1) := by decide +kernel
theorem dL_stop_4 : decode cL_stop 4 = .ok (.invokevirtual 57, 3) := by decide +kernel
theorem dL_stop_19 : decode cL_stop 19 = .ok (.astore_n 3, 1) := by decide +kernel
theorem dL_stop_20 : decode cL_stop 20 = .ok (.iconst 1, 1) := by decide +kernel
theorem dL_stop_21 : decode cL_stop 21 = .ok (.ireturn, 1) := by decide +kernel
theorem dL_sum_0 : decode cL_sum 0 = .ok (.aload_n 1, 1) := by decide +kernel
theorem dL_sum_1 : decode cL_sum 1 = .ok (.iconst 0, 1) := by decide +kernel
theorem dL_sum_2 : decode cL_sum 2 = .ok (.aload_n 0, 1) := by decide +kernel
theorem dL_sum_3 : decode cL_sum 3 = .ok (.invokevirtual 35, 3) := by decide +kernel
theorem dL_sum_11 : decode cL_sum 11 = .ok (.astore_n 2, 1) := by decide +kernel
theorem dL_sum_12 : decode cL_sum 12 = .ok (.iconst 1, 1) := by decide +kernel
theorem dL_sum_13 : decode cL_sum 13 = .ok (.ireturn, 1) := by decide +kernel
theorem dL_take_0 : decode cL_take 0 = .ok (.aload_n 2, 1) := by decide +kernel
theorem dL_take_1 : decode cL_take 1 = .ok (.iconst 0, 1) := by decide +kernel
theorem dL_take_2 : decode cL_take 2 = .ok (.aload_n 0, 1) := by decide +kernel
theorem dL_take_3 : decode cL_take 3 = .ok (.iload_n 1, 1) := by decide +kernel
theorem dL_take_4 : decode cL_take 4 = .ok (.invokevirtual 74, 3) := by decide +kernel
theorem dL_take_12 : decode cL_take 12 = .ok (.astore_n 3, 1) := by decide +kernel
theorem dL_take_13 : decode cL_take 13 = .ok (.iconst 1, 1) := by decide +kernel
theorem dL_take_14 : decode cL_take 14 = .ok (.ireturn, 1) := by decide +kernel
theorem dL_take_15 : decode cL_take 15 = .ok (.astore_n 3, 1) := by decide +kernel
theorem dL_take_16 : decode cL_take 16 = .ok (.iconst 2, 1) := by decide +kernel
theorem dL_take_17 : decode cL_take 17 = .ok (.ireturn, 1) := by decide +kernel
theorem dL_told_0 : decode cL_told 0 = .ok (.aload_n 3, 1) := by decide +kernel
theorem dL_told_1 : decode cL_told 1 = .ok (.iconst 0, 1) := by decide +kernel
theorem dL_told_2 : decode cL_told 2 = .ok (.aload_n 0, 1) := by decide +kernel
theorem dL_told_3 : decode cL_told 3 = .ok (.iload_n 1, 1) := by decide +kernel
theorem dL_told_4 : decode cL_told 4 = .ok (.iload_n 2, 1) := by decide +kernel
theorem dL_told_5 : decode cL_told 5 = .ok (.invokevirtual 77, 3) := by decide +kernel
theorem dL_told_13 : decode cL_told 13 = .ok (.astore 4, 2) := by decide +kernel
theorem dL_told_15 : decode cL_told 15 = .ok (.iconst 1, 1) := by decide +kernel
theorem dL_told_16 : decode cL_told 16 = .ok (.ireturn, 1) := by decide +kernel
theorem dL_top_0 : decode cL_top 0 = .ok (.aload_n 2, 1) := by decide +kernel
theorem dL_top_1 : decode cL_top 1 = .ok (.iconst 0, 1) := by decide +kernel
theorem dL_top_2 : decode cL_top 2 = .ok (.aload_n 0, 1) := by decide +kernel
theorem dL_top_3 : decode cL_top 3 = .ok (.iload_n 1, 1) := by decide +kernel
theorem dL_top_4 : decode cL_top 4 = .ok (.invokevirtual 80, 3) := by decide +kernel
theorem dL_top_11 : decode cL_top 11 = .ok (.astore_n 3, 1) := by decide +kernel
theorem dL_top_12 : decode cL_top 12 = .ok (.iconst 1, 1) := by decide +kernel
theorem dL_top_13 : decode cL_top 13 = .ok (.ireturn, 1) := by decide +kernel
theorem dL_type_0 : decode cL_type 0 = .ok (.aload_n 3, 1) := by decide +kernel
theorem dL_type_1 : decode cL_type 1 = .ok (.iconst 0, 1) := by decide +kernel
theorem dL_type_2 : decode cL_type 2 = .ok (.aload_n 0, 1) := by decide +kernel
theorem dL_type_3 : decode cL_type 3 = .ok (.lload_n 1, 1) := by decide +kernel
theorem dL_type_4 : decode cL_type 4 = .ok (.invokevirtual 7, 3) := by decide +kernel
theorem dL_type_7 : decode cL_type 7 = .ok (.i2l, 1) := by decide +kernel
theorem dL_type_8 : decode cL_type 8 = .ok (.lastore, 1) := by decide +kernel
theorem dL_type_9 : decode cL_type 9 = .ok (.goto 7, 3) := by decide +kernel
theorem dL_type_16 : decode cL_type 16 = .ok (.iconst 0, 1) := by decide +kernel
theorem dL_type_17 : decode cL_type 17 = .ok (.ireturn, 1) := by decide +kernel
