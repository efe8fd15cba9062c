theorem dL_law_1719 : decode cL_law 1719 = .ok (.iconst 2, 1) := by decide +kernel
theorem dL_law_1720 : decode cL_law 1720 = .ok (.iadd, 1) := by decide +kernel
theorem dL_law_1721 : decode cL_law 1721 = .ok (.iaload, 1) := by decide +kernel
theorem dL_law_1722 : decode cL_law 1722 = .ok (.aload_n 0, 1) := by decide +kernel
theorem dL_law_1723 : decode cL_law 1723 = .ok (.iload 4, 2) := by decide +kernel
theorem dL_law_1725 : decode cL_law 1725 = .ok (.iconst 3, 1) := by decide +kernel
theorem dL_law_1726 : decode cL_law 1726 = .ok (.iadd, 1) := by decide +kernel
theorem dL_law_1727 : decode cL_law 1727 = .ok (.iaload, 1) := by decide +kernel
theorem dL_law_1728 : decode cL_law 1728 = .ok (.aload_n 3, 1) := by decide +kernel
theorem dL_law_1729 : decode cL_law 1729 = .ok (.invokestatic 190, 3) := by decide +kernel
theorem dL_law_1732 : decode cL_law 1732 = .ok (.istore 5, 2) := by decide +kernel
theorem dL_law_1734 : decode cL_law 1734 = .ok (.aload_n 2, 1) := by decide +kernel
theorem dL_law_1735 : decode cL_law 1735 = .ok (.aload_n 0, 1) := by decide +kernel
theorem dL_law_1736 : decode cL_law 1736 = .ok (.iload 4, 2) := by decide +kernel
theorem dL_law_1738 : decode cL_law 1738 = .ok (.iconst 1, 1) := by decide +kernel
theorem dL_law_1739 : decode cL_law 1739 = .ok (.iadd, 1) := by decide +kernel
theorem dL_law_1740 : decode cL_law 1740 = .ok (.iaload, 1) := by decide +kernel
theorem dL_law_1741 : decode cL_law 1741 = .ok (.aload_n 0, 1) := by decide +kernel
theorem dL_law_1742 : decode cL_law 1742 = .ok (.iload 4, 2) := by decide +kernel
theorem dL_law_1744 : decode cL_law 1744 = .ok (.iconst 2, 1) := by decide +kernel
theorem dL_law_1745 : decode cL_law 1745 = .ok (.iadd, 1) := by decide +kernel
theorem dL_law_1746 : decode cL_law 1746 = .ok (.iaload, 1) := by decide +kernel
theorem dL_law_1747 : decode cL_law 1747 = .ok (.aload_n 0, 1) := by decide +kernel
theorem dL_law_1748 : decode cL_law 1748 = .ok (.iload 4, 2) := by decide +kernel
theorem dL_law_1750 : decode cL_law 1750 = .ok (.iconst 3, 1) := by decide +kernel
theorem dL_law_1751 : decode cL_law 1751 = .ok (.iadd, 1) := by decide +kernel
theorem dL_law_1752 : decode cL_law 1752 = .ok (.iaload, 1) := by decide +kernel
theorem dL_law_1753 : decode cL_law 1753 = .ok (.invokevirtual 192, 3) := by decide +kernel
theorem dL_law_1756 : decode cL_law 1756 = .ok (.istore 6, 2) := by decide +kernel
theorem dL_law_1758 : decode cL_law 1758 = .ok (.aload_n 2, 1) := by decide +kernel
theorem dL_law_1759 : decode cL_law 1759 = .ok (.invokevirtual 122, 3) := by decide +kernel
theorem dL_law_1762 : decode cL_law 1762 = .ok (.iload 5, 2) := by decide +kernel
theorem dL_law_1764 : decode cL_law 1764 = .ok (.if_icmp .eq 5, 3) := by decide +kernel
theorem dL_law_1767 : decode cL_law 1767 = .ok (.iconst 0, 1) := by decide +kernel
theorem dL_law_1768 : decode cL_law 1768 = .ok (.ireturn, 1) := by decide +kernel
theorem dL_law_1769 : decode cL_law 1769 = .ok (.iload 5, 2) := by decide +kernel
theorem dL_law_1771 : decode cL_law 1771 = .ok (.ifCond .ne 15, 3) := by decide +kernel
theorem dL_law_1774 : decode cL_law 1774 = .ok (.aload_n 3, 1) := by decide +kernel
theorem dL_law_1775 : decode cL_law 1775 = .ok (.iconst 0, 1) := by decide +kernel
theorem dL_law_1776 : decode cL_law 1776 = .ok (.laload, 1) := by decide +kernel
theorem dL_law_1777 : decode cL_law 1777 = .ok (.iload 6, 2) := by decide +kernel
theorem dL_law_1779 : decode cL_law 1779 = .ok (.i2l, 1) := by decide +kernel
theorem dL_law_1780 : decode cL_law 1780 = .ok (.lcmp, 1) := by decide +kernel
theorem dL_law_1781 : decode cL_law 1781 = .ok (.ifCond .eq 5, 3) := by decide +kernel
theorem dL_law_1784 : decode cL_law 1784 = .ok (.iconst 0, 1) := by decide +kernel
theorem dL_law_1785 : decode cL_law 1785 = .ok (.ireturn, 1) := by decide +kernel
theorem dL_law_1786 : decode cL_law 1786 = .ok (.goto 671, 3) := by decide +kernel
theorem dL_law_1789 : decode cL_law 1789 = .ok (.aload_n 1, 1) := by decide +kernel
theorem dL_law_1790 : decode cL_law 1790 = .ok (.aload_n 0, 1) := by decide +kernel
theorem dL_law_1791 : decode cL_law 1791 = .ok (.iload 4, 2) := by decide +kernel
theorem dL_law_1793 : decode cL_law 1793 = .ok (.iconst 1, 1) := by decide +kernel
theorem dL_law_1794 : decode cL_law 1794 = .ok (.iadd, 1) := by decide +kernel
theorem dL_law_1795 : decode cL_law 1795 = .ok (.iaload, 1) := by decide +kernel
theorem dL_law_1796 : decode cL_law 1796 = .ok (.aload_n 0, 1) := by decide +kernel
theorem dL_law_1797 : decode cL_law 1797 = .ok (.iload 4, 2) := by decide +kernel
theorem dL_law_1799 : decode cL_law 1799 = .ok (.iconst 2, 1) := by decide +kernel
theorem dL_law_1800 : decode cL_law 1800 = .ok (.iadd, 1) := by decide +kernel
theorem dL_law_1801 : decode cL_law 1801 = .ok (.iaload, 1) := by decide +kernel
theorem dL_law_1802 : decode cL_law 1802 = .ok (.aload_n 3, 1) := by decide +kernel
theorem dL_law_1803 : decode cL_law 1803 = .ok (.invokestatic 193, 3) := by decide +kernel
theorem dL_law_1806 : decode cL_law 1806 = .ok (.istore 5, 2) := by decide +kernel
theorem dL_law_1808 : decode cL_law 1808 = .ok (.aload_n 2, 1) := by decide +kernel
theorem dL_law_1809 : decode cL_law 1809 = .ok (.aload_n 0, 1) := by decide +kernel
theorem dL_law_1810 : decode cL_law 1810 = .ok (.iload 4, 2) := by decide +kernel
theorem dL_law_1812 : decode cL_law 1812 = .ok (.iconst 1, 1) := by decide +kernel
theorem dL_law_1813 : decode cL_law 1813 = .ok (.iadd, 1) := by decide +kernel
theorem dL_law_1814 : decode cL_law 1814 = .ok (.iaload, 1) := by decide +kernel
theorem dL_law_1815 : decode cL_law 1815 = .ok (.aload_n 0, 1) := by decide +kernel
theorem dL_law_1816 : decode cL_law 1816 = .ok (.iload 4, 2) := by decide +kernel
theorem dL_law_1818 : decode cL_law 1818 = .ok (.iconst 2, 1) := by decide +kernel
theorem dL_law_1819 : decode cL_law 1819 = .ok (.iadd, 1) := by decide +kernel
theorem dL_law_1820 : decode cL_law 1820 = .ok (.iaload, 1) := by decide +kernel
theorem dL_law_1821 : decode cL_law 1821 = .ok (.invokevirtual 195, 3) := by decide +kernel
theorem dL_law_1824 : decode cL_law 1824 = .ok (.istore 6, 2) := by decide +kernel
theorem dL_law_1826 : decode cL_law 1826 = .ok (.aload_n 2, 1) := by decide +kernel
theorem dL_law_1827 : decode cL_law 1827 = .ok (.invokevirtual 122, 3) := by decide +kernel
theorem dL_law_1830 : decode cL_law 1830 = .ok (.iload 5, 2) := by decide +kernel
theorem dL_law_1832 : decode cL_law 1832 = .ok (.if_icmp .eq 5, 3) := by decide +kernel
theorem dL_law_1835 : decode cL_law 1835 = .ok (.iconst 0, 1) := by decide +kernel
theorem dL_law_1836 : decode cL_law 1836 = .ok (.ireturn, 1) := by decide +kernel
theorem dL_law_1837 : decode cL_law 1837 = .ok (.iload 5, 2) := by decide +kernel
theorem dL_law_1839 : decode cL_law 1839 = .ok (.ifCond .ne 15, 3) := by decide +kernel
theorem dL_law_1842 : decode cL_law 1842 = .ok (.aload_n 3, 1) := by decide +kernel
theorem dL_law_1843 : decode cL_law 1843 = .ok (.iconst 0, 1) := by decide +kernel
theorem dL_law_1844 : decode cL_law 1844 = .ok (.laload, 1) := by decide +kernel
theorem dL_law_1845 : decode cL_law 1845 = .ok (.iload 6, 2) := by decide +kernel
theorem dL_law_1847 : decode cL_law 1847 = .ok (.i2l, 1) := by decide +kernel
theorem dL_law_1848 : decode cL_law 1848 = .ok (.lcmp, 1) := by decide +kernel
theorem dL_law_1849 : decode cL_law 1849 = .ok (.ifCond .eq 5, 3) := by decide +kernel
theorem dL_law_1852 : decode cL_law 1852 = .ok (.iconst 0, 1) := by decide +kernel
theorem dL_law_1853 : decode cL_law 1853 = .ok (.ireturn, 1) := by decide +kernel
theorem dL_law_1854 : decode cL_law 1854 = .ok (.goto 603, 3) := by decide +kernel
theorem dL_law_1857 : decode cL_law 1857 = .ok (.aload_n 1, 1) := by decide +kernel
theorem dL_law_1858 : decode cL_law 1858 = .ok (.aload_n 0, 1) := by decide +kernel
theorem dL_law_1859 : decode cL_law 1859 = .ok (.iload 4, 2) := by decide +kernel
theorem dL_law_1861 : decode cL_law 1861 = .ok (.iconst 1, 1) := by decide +kernel
theorem dL_law_1862 : decode cL_law 1862 = .ok (.iadd, 1) := by decide +kernel
theorem dL_law_1863 : decode cL_law 1863 = .ok (.iaload, 1) := by decide +kernel
theorem dL_law_1864 : decode cL_law 1864 = .ok (.aload_n 0, 1) := by decide +kernel
theorem dL_law_1865 : decode cL_law 1865 = .ok (.iload 4, 2) := by decide +kernel
theorem dL_law_1867 : decode cL_law 1867 = .ok (.iconst 2, 1) := by decide +kernel
theorem dL_law_1868 : decode cL_law 1868 = .ok (.iadd, 1) := by decide +kernel
theorem dL_law_1869 : decode cL_law 1869 = .ok (.iaload, 1) := by decide +kernel
theorem dL_law_1870 : decode cL_law 1870 = .ok (.aload_n 0, 1) := by decide +kernel
theorem dL_law_1871 : decode cL_law 1871 = .ok (.iload 4, 2) := by decide +kernel
theorem dL_law_1873 : decode cL_law 1873 = .ok (.iconst 3, 1) := by decide +kernel
theorem dL_law_1874 : decode cL_law 1874 = .ok (.iadd, 1) := by decide +kernel
theorem dL_law_1875 : decode cL_law 1875 = .ok (.iaload, 1) := by decide +kernel
theorem dL_law_1876 : decode cL_law 1876 = .ok (.aload_n 0, 1) := by decide +kernel
theorem dL_law_1877 : decode cL_law 1877 = .ok (.iload 4, 2) := by decide +kernel
theorem dL_law_1879 : decode cL_law 1879 = .ok (.iconst 4, 1) := by decide +kernel
theorem dL_law_1880 : decode cL_law 1880 = .ok (.iadd, 1) := by decide +kernel
theorem dL_law_1881 : decode cL_law 1881 = .ok (.iaload, 1) := by decide +kernel
theorem dL_law_1882 : decode cL_law 1882 = .ok (.aload_n 3, 1) := by decide +kernel
theorem dL_law_1883 : decode cL_law 1883 = .ok (.invokestatic 196, 3) := by decide +kernel
theorem dL_law_1886 : decode cL_law 1886 = .ok (.istore 5, 2) := by decide +kernel
theorem dL_law_1888 : decode cL_law 1888 = .ok (.aload_n 2, 1) := by decide +kernel
theorem dL_law_1889 : decode cL_law 1889 = .ok (.aload_n 0, 1) := by decide +kernel
theorem dL_law_1890 : decode cL_law 1890 = .ok (.iload 4, 2) := by decide +kernel
theorem dL_law_1892 : decode cL_law 1892 = .ok (.iconst 1, 1) := by decide +kernel
theorem dL_law_1893 : decode cL_law 1893 = .ok (.iadd, 1) := by decide +kernel
theorem dL_law_1894 : decode cL_law 1894 = .ok (.iaload, 1) := by decide +kernel
theorem dL_law_1895 : decode cL_law 1895 = .ok (.aload_n 0, 1) := by decide +kernel
theorem dL_law_1896 : decode cL_law 1896 = .ok (.iload 4, 2) := by decide +kernel
theorem dL_law_1898 : decode cL_law 1898 = .ok (.iconst 2, 1) := by decide +kernel
theorem dL_law_1899 : decode cL_law 1899 = .ok (.iadd, 1) := by decide +kernel
theorem dL_law_1900 : decode cL_law 1900 = .ok (.iaload, 1) := by decide +kernel
theorem dL_law_1901 : decode cL_law 1901 = .ok (.aload_n 0, 1) := by decide +kernel
theorem dL_law_1902 : decode cL_law 1902 = .ok (.iload 4, 2) := by decide +kernel
theorem dL_law_1904 : decode cL_law 1904 = .ok (.iconst 3, 1) := by decide +kernel
theorem dL_law_1905 : decode cL_law 1905 = .ok (.iadd, 1) := by decide +kernel
theorem dL_law_1906 : decode cL_law 1906 = .ok (.iaload, 1) := by decide +kernel
theorem dL_law_1907 : decode cL_law 1907 = .ok (.aload_n 0, 1) := by decide +kernel
theorem dL_law_1908 : decode cL_law 1908 = .ok (.iload 4, 2) := by decide +kernel
theorem dL_law_1910 : decode cL_law 1910 = .ok (.iconst 4, 1) := by decide +kernel
theorem dL_law_1911 : decode cL_law 1911 = .ok (.iadd, 1) := by decide +kernel
theorem dL_law_1912 : decode cL_law 1912 = .ok (.iaload, 1) := by decide +kernel
theorem dL_law_1913 : decode cL_law 1913 = .ok (.invokevirtual 198, 3) := by decide +kernel
theorem dL_law_1916 : decode cL_law 1916 = .ok (.istore 6, 2) := by decide +kernel
theorem dL_law_1918 : decode cL_law 1918 = .ok (.aload_n 2, 1) := by decide +kernel
theorem dL_law_1919 : decode cL_law 1919 = .ok (.invokevirtual 122, 3) := by decide +kernel
theorem dL_law_1922 : decode cL_law 1922 = .ok (.iload 5, 2) := by decide +kernel
theorem dL_law_1924 : decode cL_law 1924 = .ok (.if_icmp .eq 5, 3) := by decide +kernel
theorem dL_law_1927 : decode cL_law 1927 = .ok (.iconst 0, 1) := by decide +kernel
theorem dL_law_1928 : decode cL_law 1928 = .ok (.ireturn, 1) := by decide +kernel
theorem dL_law_1929 : decode cL_law 1929 = .ok (.iload 5, 2) := by decide +kernel
theorem dL_law_1931 : decode cL_law 1931 = .ok (.ifCond .ne 15, 3) := by decide +kernel
theorem dL_law_1934 : decode cL_law 1934 = .ok (.aload_n 3, 1) := by decide +kernel
theorem dL_law_1935 : decode cL_law 1935 = .ok (.iconst 0, 1) := by decide +kernel
theorem dL_law_1936 : decode cL_law 1936 = .ok (.laload, 1) := by decide +kernel
