theorem dL_refuses_1725 : decode cL_refuses 1725 = .ok (.aload_n 0, 1) := by decide +kernel
theorem dL_refuses_1726 : decode cL_refuses 1726 = .ok (.bipush 36, 2) := by decide +kernel
theorem dL_refuses_1728 : decode cL_refuses 1728 = .ok (.iconst 0, 1) := by decide +kernel
theorem dL_refuses_1729 : decode cL_refuses 1729 = .ok (.iload 19, 2) := by decide +kernel
theorem dL_refuses_1731 : decode cL_refuses 1731 = .ok (.iconst 0, 1) := by decide +kernel
theorem dL_refuses_1732 : decode cL_refuses 1732 = .ok (.iconst 0, 1) := by decide +kernel
theorem dL_refuses_1733 : decode cL_refuses 1733 = .ok (.iconst 0, 1) := by decide +kernel
theorem dL_refuses_1734 : decode cL_refuses 1734 = .ok (.invokestatic 157, 3) := by decide +kernel
theorem dL_refuses_1737 : decode cL_refuses 1737 = .ok (.bipush (-71), 2) := by decide +kernel
theorem dL_refuses_1739 : decode cL_refuses 1739 = .ok (.if_icmp .ne 58, 3) := by decide +kernel
theorem dL_refuses_1742 : decode cL_refuses 1742 = .ok (.iload 4, 2) := by decide +kernel
theorem dL_refuses_1744 : decode cL_refuses 1744 = .ok (.ifCond .eq 49, 3) := by decide +kernel
theorem dL_refuses_1747 : decode cL_refuses 1747 = .ok (.aload_n 0, 1) := by decide +kernel
theorem dL_refuses_1748 : decode cL_refuses 1748 = .ok (.bipush 22, 2) := by decide +kernel
theorem dL_refuses_1750 : decode cL_refuses 1750 = .ok (.iconst 0, 1) := by decide +kernel
theorem dL_refuses_1751 : decode cL_refuses 1751 = .ok (.iload 10, 2) := by decide +kernel
theorem dL_refuses_1753 : decode cL_refuses 1753 = .ok (.iconst 1, 1) := by decide +kernel
theorem dL_refuses_1754 : decode cL_refuses 1754 = .ok (.if_icmp .ne 9, 3) := by decide +kernel
theorem dL_refuses_1757 : decode cL_refuses 1757 = .ok (.sipush 128, 3) := by decide +kernel
theorem dL_refuses_1760 : decode cL_refuses 1760 = .ok (.goto 5, 3) := by decide +kernel
theorem dL_refuses_1763 : decode cL_refuses 1763 = .ok (.iload 11, 2) := by decide +kernel
theorem dL_refuses_1765 : decode cL_refuses 1765 = .ok (.iconst 0, 1) := by decide +kernel
theorem dL_refuses_1766 : decode cL_refuses 1766 = .ok (.iconst 0, 1) := by decide +kernel
theorem dL_refuses_1767 : decode cL_refuses 1767 = .ok (.iconst 0, 1) := by decide +kernel
theorem dL_refuses_1768 : decode cL_refuses 1768 = .ok (.invokestatic 157, 3) := by decide +kernel
theorem dL_refuses_1771 : decode cL_refuses 1771 = .ok (.bipush (-71), 2) := by decide +kernel
theorem dL_refuses_1773 : decode cL_refuses 1773 = .ok (.if_icmp .ne 24, 3) := by decide +kernel
theorem dL_refuses_1776 : decode cL_refuses 1776 = .ok (.aload_n 0, 1) := by decide +kernel
theorem dL_refuses_1777 : decode cL_refuses 1777 = .ok (.bipush 23, 2) := by decide +kernel
theorem dL_refuses_1779 : decode cL_refuses 1779 = .ok (.iconst 0, 1) := by decide +kernel
theorem dL_refuses_1780 : decode cL_refuses 1780 = .ok (.iload 12, 2) := by decide +kernel
theorem dL_refuses_1782 : decode cL_refuses 1782 = .ok (.iconst 0, 1) := by decide +kernel
theorem dL_refuses_1783 : decode cL_refuses 1783 = .ok (.iconst 0, 1) := by decide +kernel
theorem dL_refuses_1784 : decode cL_refuses 1784 = .ok (.iconst 0, 1) := by decide +kernel
theorem dL_refuses_1785 : decode cL_refuses 1785 = .ok (.invokestatic 157, 3) := by decide +kernel
theorem dL_refuses_1788 : decode cL_refuses 1788 = .ok (.bipush (-71), 2) := by decide +kernel
theorem dL_refuses_1790 : decode cL_refuses 1790 = .ok (.if_icmp .ne 7, 3) := by decide +kernel
theorem dL_refuses_1793 : decode cL_refuses 1793 = .ok (.iconst 1, 1) := by decide +kernel
theorem dL_refuses_1794 : decode cL_refuses 1794 = .ok (.goto 4, 3) := by decide +kernel
theorem dL_refuses_1797 : decode cL_refuses 1797 = .ok (.iconst 0, 1) := by decide +kernel
theorem dL_refuses_1798 : decode cL_refuses 1798 = .ok (.istore 23, 2) := by decide +kernel
theorem dL_refuses_1800 : decode cL_refuses 1800 = .ok (.iload 23, 2) := by decide +kernel
theorem dL_refuses_1802 : decode cL_refuses 1802 = .ok (.ifCond .ne 5, 3) := by decide +kernel
theorem dL_refuses_1805 : decode cL_refuses 1805 = .ok (.iconst 0, 1) := by decide +kernel
theorem dL_refuses_1806 : decode cL_refuses 1806 = .ok (.ireturn, 1) := by decide +kernel
theorem dL_refuses_1807 : decode cL_refuses 1807 = .ok (.iinc 10 1, 3) := by decide +kernel
theorem dL_refuses_1810 : decode cL_refuses 1810 = .ok (.goto (-1779), 3) := by decide +kernel
theorem dL_refuses_1813 : decode cL_refuses 1813 = .ok (.aload_n 0, 1) := by decide +kernel
theorem dL_refuses_1814 : decode cL_refuses 1814 = .ok (.invokevirtual 143, 3) := by decide +kernel
theorem dL_refuses_1817 : decode cL_refuses 1817 = .ok (.iload 5, 2) := by decide +kernel
theorem dL_refuses_1819 : decode cL_refuses 1819 = .ok (.if_icmp .ne 34, 3) := by decide +kernel
theorem dL_refuses_1822 : decode cL_refuses 1822 = .ok (.aload_n 0, 1) := by decide +kernel
theorem dL_refuses_1823 : decode cL_refuses 1823 = .ok (.invokevirtual 146, 3) := by decide +kernel
theorem dL_refuses_1826 : decode cL_refuses 1826 = .ok (.iload 6, 2) := by decide +kernel
theorem dL_refuses_1828 : decode cL_refuses 1828 = .ok (.if_icmp .ne 25, 3) := by decide +kernel
theorem dL_refuses_1831 : decode cL_refuses 1831 = .ok (.aload_n 0, 1) := by decide +kernel
theorem dL_refuses_1832 : decode cL_refuses 1832 = .ok (.invokevirtual 149, 3) := by decide +kernel
theorem dL_refuses_1835 : decode cL_refuses 1835 = .ok (.iload 7, 2) := by decide +kernel
theorem dL_refuses_1837 : decode cL_refuses 1837 = .ok (.if_icmp .ne 16, 3) := by decide +kernel
theorem dL_refuses_1840 : decode cL_refuses 1840 = .ok (.aload_n 0, 1) := by decide +kernel
theorem dL_refuses_1841 : decode cL_refuses 1841 = .ok (.invokevirtual 152, 3) := by decide +kernel
theorem dL_refuses_1844 : decode cL_refuses 1844 = .ok (.iload 8, 2) := by decide +kernel
theorem dL_refuses_1846 : decode cL_refuses 1846 = .ok (.if_icmp .ne 7, 3) := by decide +kernel
theorem dL_refuses_1849 : decode cL_refuses 1849 = .ok (.iconst 1, 1) := by decide +kernel
theorem dL_refuses_1850 : decode cL_refuses 1850 = .ok (.goto 4, 3) := by decide +kernel
theorem dL_refuses_1853 : decode cL_refuses 1853 = .ok (.iconst 0, 1) := by decide +kernel
theorem dL_refuses_1854 : decode cL_refuses 1854 = .ok (.ireturn, 1) := by decide +kernel
