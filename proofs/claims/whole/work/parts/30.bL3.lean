/-! instructions, by program (gen2.py) -/
set_option maxRecDepth 100000 in
theorem f_188_1708 : xft 188 1708 = some (.iadd) := by decide +kernel
set_option maxRecDepth 100000 in
theorem f_188_1709 : xft 188 1709 = some (.iaload) := by decide +kernel
set_option maxRecDepth 100000 in
theorem f_188_1710 : xft 188 1710 = some (.aload_n 0) := by decide +kernel
set_option maxRecDepth 100000 in
theorem f_188_1711 : xft 188 1711 = some (.iload 4) := by decide +kernel
set_option maxRecDepth 100000 in
theorem f_188_1713 : xft 188 1713 = some (.iconst 3) := by decide +kernel
set_option maxRecDepth 100000 in
theorem f_188_1714 : xft 188 1714 = some (.iadd) := by decide +kernel
set_option maxRecDepth 100000 in
theorem f_188_1715 : xft 188 1715 = some (.iaload) := by decide +kernel
set_option maxRecDepth 100000 in
theorem f_188_1716 : xft 188 1716 = some (.aload_n 3) := by decide +kernel
set_option maxRecDepth 100000 in
theorem f_188_1717 : xft 188 1717 = some (.invokestatic 180) := by decide +kernel
set_option maxRecDepth 100000 in
theorem f_188_1720 : xft 188 1720 = some (.istore 5) := by decide +kernel
set_option maxRecDepth 100000 in
theorem f_188_1722 : xft 188 1722 = some (.aload_n 2) := by decide +kernel
set_option maxRecDepth 100000 in
theorem f_188_1723 : xft 188 1723 = some (.aload_n 0) := by decide +kernel
set_option maxRecDepth 100000 in
theorem f_188_1724 : xft 188 1724 = some (.iload 4) := by decide +kernel
set_option maxRecDepth 100000 in
theorem f_188_1726 : xft 188 1726 = some (.iconst 1) := by decide +kernel
set_option maxRecDepth 100000 in
theorem f_188_1727 : xft 188 1727 = some (.iadd) := by decide +kernel
set_option maxRecDepth 100000 in
theorem f_188_1728 : xft 188 1728 = some (.iaload) := by decide +kernel
set_option maxRecDepth 100000 in
theorem f_188_1729 : xft 188 1729 = some (.aload_n 0) := by decide +kernel
set_option maxRecDepth 100000 in
theorem f_188_1730 : xft 188 1730 = some (.iload 4) := by decide +kernel
set_option maxRecDepth 100000 in
theorem f_188_1732 : xft 188 1732 = some (.iconst 2) := by decide +kernel
set_option maxRecDepth 100000 in
theorem f_188_1733 : xft 188 1733 = some (.iadd) := by decide +kernel
set_option maxRecDepth 100000 in
theorem f_188_1734 : xft 188 1734 = some (.iaload) := by decide +kernel
set_option maxRecDepth 100000 in
theorem f_188_1735 : xft 188 1735 = some (.aload_n 0) := by decide +kernel
set_option maxRecDepth 100000 in
theorem f_188_1736 : xft 188 1736 = some (.iload 4) := by decide +kernel
set_option maxRecDepth 100000 in
theorem f_188_1738 : xft 188 1738 = some (.iconst 3) := by decide +kernel
set_option maxRecDepth 100000 in
theorem f_188_1739 : xft 188 1739 = some (.iadd) := by decide +kernel
set_option maxRecDepth 100000 in
theorem f_188_1740 : xft 188 1740 = some (.iaload) := by decide +kernel
set_option maxRecDepth 100000 in
theorem f_188_1741 : xft 188 1741 = some (.invokevirtual 182) := by decide +kernel
set_option maxRecDepth 100000 in
theorem f_188_1744 : xft 188 1744 = some (.istore 6) := by decide +kernel
set_option maxRecDepth 100000 in
theorem f_188_1746 : xft 188 1746 = some (.aload_n 2) := by decide +kernel
set_option maxRecDepth 100000 in
theorem f_188_1747 : xft 188 1747 = some (.invokevirtual 117) := by decide +kernel
set_option maxRecDepth 100000 in
theorem f_188_1750 : xft 188 1750 = some (.iload 5) := by decide +kernel
set_option maxRecDepth 100000 in
theorem f_188_1752 : xft 188 1752 = some (.if_icmp .eq 5) := by decide +kernel
set_option maxRecDepth 100000 in
theorem f_188_1755 : xft 188 1755 = some (.iconst 0) := by decide +kernel
set_option maxRecDepth 100000 in
theorem f_188_1756 : xft 188 1756 = some (.ireturn) := by decide +kernel
set_option maxRecDepth 100000 in
theorem f_188_1757 : xft 188 1757 = some (.iload 5) := by decide +kernel
set_option maxRecDepth 100000 in
theorem f_188_1759 : xft 188 1759 = some (.ifCond .ne 15) := by decide +kernel
set_option maxRecDepth 100000 in
theorem f_188_1762 : xft 188 1762 = some (.aload_n 3) := by decide +kernel
set_option maxRecDepth 100000 in
theorem f_188_1763 : xft 188 1763 = some (.iconst 0) := by decide +kernel
set_option maxRecDepth 100000 in
theorem f_188_1764 : xft 188 1764 = some (.laload) := by decide +kernel
set_option maxRecDepth 100000 in
theorem f_188_1765 : xft 188 1765 = some (.iload 6) := by decide +kernel
set_option maxRecDepth 100000 in
theorem f_188_1767 : xft 188 1767 = some (.i2l) := by decide +kernel
set_option maxRecDepth 100000 in
theorem f_188_1768 : xft 188 1768 = some (.lcmp) := by decide +kernel
set_option maxRecDepth 100000 in
theorem f_188_1769 : xft 188 1769 = some (.ifCond .eq 5) := by decide +kernel
set_option maxRecDepth 100000 in
theorem f_188_1772 : xft 188 1772 = some (.iconst 0) := by decide +kernel
set_option maxRecDepth 100000 in
theorem f_188_1773 : xft 188 1773 = some (.ireturn) := by decide +kernel
set_option maxRecDepth 100000 in
theorem f_188_1774 : xft 188 1774 = some (.goto 694) := by decide +kernel
set_option maxRecDepth 100000 in
theorem f_188_1777 : xft 188 1777 = some (.aload_n 1) := by decide +kernel
set_option maxRecDepth 100000 in
theorem f_188_1778 : xft 188 1778 = some (.aload_n 0) := by decide +kernel
set_option maxRecDepth 100000 in
theorem f_188_1779 : xft 188 1779 = some (.iload 4) := by decide +kernel
set_option maxRecDepth 100000 in
theorem f_188_1781 : xft 188 1781 = some (.iconst 1) := by decide +kernel
set_option maxRecDepth 100000 in
theorem f_188_1782 : xft 188 1782 = some (.iadd) := by decide +kernel
set_option maxRecDepth 100000 in
theorem f_188_1783 : xft 188 1783 = some (.iaload) := by decide +kernel
set_option maxRecDepth 100000 in
theorem f_188_1784 : xft 188 1784 = some (.aload_n 0) := by decide +kernel
set_option maxRecDepth 100000 in
theorem f_188_1785 : xft 188 1785 = some (.iload 4) := by decide +kernel
set_option maxRecDepth 100000 in
theorem f_188_1787 : xft 188 1787 = some (.iconst 2) := by decide +kernel
set_option maxRecDepth 100000 in
theorem f_188_1788 : xft 188 1788 = some (.iadd) := by decide +kernel
set_option maxRecDepth 100000 in
theorem f_188_1789 : xft 188 1789 = some (.iaload) := by decide +kernel
set_option maxRecDepth 100000 in
theorem f_188_1790 : xft 188 1790 = some (.aload_n 0) := by decide +kernel
set_option maxRecDepth 100000 in
theorem f_188_1791 : xft 188 1791 = some (.iload 4) := by decide +kernel
set_option maxRecDepth 100000 in
theorem f_188_1793 : xft 188 1793 = some (.iconst 3) := by decide +kernel
set_option maxRecDepth 100000 in
theorem f_188_1794 : xft 188 1794 = some (.iadd) := by decide +kernel
set_option maxRecDepth 100000 in
theorem f_188_1795 : xft 188 1795 = some (.iaload) := by decide +kernel
set_option maxRecDepth 100000 in
theorem f_188_1796 : xft 188 1796 = some (.aload_n 3) := by decide +kernel
set_option maxRecDepth 100000 in
theorem f_188_1797 : xft 188 1797 = some (.invokestatic 183) := by decide +kernel
set_option maxRecDepth 100000 in
theorem f_188_1800 : xft 188 1800 = some (.istore 5) := by decide +kernel
set_option maxRecDepth 100000 in
theorem f_188_1802 : xft 188 1802 = some (.aload_n 2) := by decide +kernel
set_option maxRecDepth 100000 in
theorem f_188_1803 : xft 188 1803 = some (.aload_n 0) := by decide +kernel
set_option maxRecDepth 100000 in
theorem f_188_1804 : xft 188 1804 = some (.iload 4) := by decide +kernel
set_option maxRecDepth 100000 in
theorem f_188_1806 : xft 188 1806 = some (.iconst 1) := by decide +kernel
set_option maxRecDepth 100000 in
theorem f_188_1807 : xft 188 1807 = some (.iadd) := by decide +kernel
set_option maxRecDepth 100000 in
theorem f_188_1808 : xft 188 1808 = some (.iaload) := by decide +kernel
set_option maxRecDepth 100000 in
theorem f_188_1809 : xft 188 1809 = some (.aload_n 0) := by decide +kernel
set_option maxRecDepth 100000 in
theorem f_188_1810 : xft 188 1810 = some (.iload 4) := by decide +kernel
set_option maxRecDepth 100000 in
theorem f_188_1812 : xft 188 1812 = some (.iconst 2) := by decide +kernel
set_option maxRecDepth 100000 in
theorem f_188_1813 : xft 188 1813 = some (.iadd) := by decide +kernel
set_option maxRecDepth 100000 in
theorem f_188_1814 : xft 188 1814 = some (.iaload) := by decide +kernel
set_option maxRecDepth 100000 in
theorem f_188_1815 : xft 188 1815 = some (.aload_n 0) := by decide +kernel
set_option maxRecDepth 100000 in
theorem f_188_1816 : xft 188 1816 = some (.iload 4) := by decide +kernel
set_option maxRecDepth 100000 in
theorem f_188_1818 : xft 188 1818 = some (.iconst 3) := by decide +kernel
set_option maxRecDepth 100000 in
theorem f_188_1819 : xft 188 1819 = some (.iadd) := by decide +kernel
set_option maxRecDepth 100000 in
theorem f_188_1820 : xft 188 1820 = some (.iaload) := by decide +kernel
set_option maxRecDepth 100000 in
theorem f_188_1821 : xft 188 1821 = some (.invokevirtual 185) := by decide +kernel
set_option maxRecDepth 100000 in
theorem f_188_1824 : xft 188 1824 = some (.istore 6) := by decide +kernel
set_option maxRecDepth 100000 in
theorem f_188_1826 : xft 188 1826 = some (.aload_n 2) := by decide +kernel
set_option maxRecDepth 100000 in
theorem f_188_1827 : xft 188 1827 = some (.invokevirtual 117) := by decide +kernel
set_option maxRecDepth 100000 in
theorem f_188_1830 : xft 188 1830 = some (.iload 5) := by decide +kernel
set_option maxRecDepth 100000 in
theorem f_188_1832 : xft 188 1832 = some (.if_icmp .eq 5) := by decide +kernel
set_option maxRecDepth 100000 in
theorem f_188_1835 : xft 188 1835 = some (.iconst 0) := by decide +kernel
set_option maxRecDepth 100000 in
theorem f_188_1836 : xft 188 1836 = some (.ireturn) := by decide +kernel
set_option maxRecDepth 100000 in
theorem f_188_1837 : xft 188 1837 = some (.iload 5) := by decide +kernel
set_option maxRecDepth 100000 in
theorem f_188_1839 : xft 188 1839 = some (.ifCond .ne 15) := by decide +kernel
set_option maxRecDepth 100000 in
theorem f_188_1842 : xft 188 1842 = some (.aload_n 3) := by decide +kernel
set_option maxRecDepth 100000 in
theorem f_188_1843 : xft 188 1843 = some (.iconst 0) := by decide +kernel
set_option maxRecDepth 100000 in
theorem f_188_1844 : xft 188 1844 = some (.laload) := by decide +kernel
set_option maxRecDepth 100000 in
theorem f_188_1845 : xft 188 1845 = some (.iload 6) := by decide +kernel
set_option maxRecDepth 100000 in
theorem f_188_1847 : xft 188 1847 = some (.i2l) := by decide +kernel
set_option maxRecDepth 100000 in
theorem f_188_1848 : xft 188 1848 = some (.lcmp) := by decide +kernel
set_option maxRecDepth 100000 in
theorem f_188_1849 : xft 188 1849 = some (.ifCond .eq 5) := by decide +kernel
set_option maxRecDepth 100000 in
theorem f_188_1852 : xft 188 1852 = some (.iconst 0) := by decide +kernel
set_option maxRecDepth 100000 in
theorem f_188_1853 : xft 188 1853 = some (.ireturn) := by decide +kernel
set_option maxRecDepth 100000 in
theorem f_188_1854 : xft 188 1854 = some (.goto 614) := by decide +kernel
set_option maxRecDepth 100000 in
theorem f_188_1857 : xft 188 1857 = some (.aload_n 1) := by decide +kernel
set_option maxRecDepth 100000 in
theorem f_188_1858 : xft 188 1858 = some (.aload_n 0) := by decide +kernel
set_option maxRecDepth 100000 in
theorem f_188_1859 : xft 188 1859 = some (.iload 4) := by decide +kernel
set_option maxRecDepth 100000 in
theorem f_188_1861 : xft 188 1861 = some (.iconst 1) := by decide +kernel
set_option maxRecDepth 100000 in
theorem f_188_1862 : xft 188 1862 = some (.iadd) := by decide +kernel
set_option maxRecDepth 100000 in
theorem f_188_1863 : xft 188 1863 = some (.iaload) := by decide +kernel
set_option maxRecDepth 100000 in
theorem f_188_1864 : xft 188 1864 = some (.aload_n 0) := by decide +kernel
set_option maxRecDepth 100000 in
theorem f_188_1865 : xft 188 1865 = some (.iload 4) := by decide +kernel
set_option maxRecDepth 100000 in
theorem f_188_1867 : xft 188 1867 = some (.iconst 2) := by decide +kernel
set_option maxRecDepth 100000 in
theorem f_188_1868 : xft 188 1868 = some (.iadd) := by decide +kernel
set_option maxRecDepth 100000 in
theorem f_188_1869 : xft 188 1869 = some (.iaload) := by decide +kernel
set_option maxRecDepth 100000 in
theorem f_188_1870 : xft 188 1870 = some (.aload_n 0) := by decide +kernel
set_option maxRecDepth 100000 in
theorem f_188_1871 : xft 188 1871 = some (.iload 4) := by decide +kernel
set_option maxRecDepth 100000 in
theorem f_188_1873 : xft 188 1873 = some (.iconst 3) := by decide +kernel
set_option maxRecDepth 100000 in
theorem f_188_1874 : xft 188 1874 = some (.iadd) := by decide +kernel
set_option maxRecDepth 100000 in
theorem f_188_1875 : xft 188 1875 = some (.iaload) := by decide +kernel
set_option maxRecDepth 100000 in
theorem f_188_1876 : xft 188 1876 = some (.aload_n 0) := by decide +kernel
set_option maxRecDepth 100000 in
theorem f_188_1877 : xft 188 1877 = some (.iload 4) := by decide +kernel
set_option maxRecDepth 100000 in
theorem f_188_1879 : xft 188 1879 = some (.iconst 4) := by decide +kernel
set_option maxRecDepth 100000 in
theorem f_188_1880 : xft 188 1880 = some (.iadd) := by decide +kernel
set_option maxRecDepth 100000 in
theorem f_188_1881 : xft 188 1881 = some (.iaload) := by decide +kernel
set_option maxRecDepth 100000 in
theorem f_188_1882 : xft 188 1882 = some (.aload_n 3) := by decide +kernel
set_option maxRecDepth 100000 in
theorem f_188_1883 : xft 188 1883 = some (.invokestatic 186) := by decide +kernel
set_option maxRecDepth 100000 in
theorem f_188_1886 : xft 188 1886 = some (.istore 5) := by decide +kernel
set_option maxRecDepth 100000 in
theorem f_188_1888 : xft 188 1888 = some (.aload_n 2) := by decide +kernel
set_option maxRecDepth 100000 in
theorem f_188_1889 : xft 188 1889 = some (.aload_n 0) := by decide +kernel
set_option maxRecDepth 100000 in
theorem f_188_1890 : xft 188 1890 = some (.iload 4) := by decide +kernel
set_option maxRecDepth 100000 in
theorem f_188_1892 : xft 188 1892 = some (.iconst 1) := by decide +kernel
set_option maxRecDepth 100000 in
theorem f_188_1893 : xft 188 1893 = some (.iadd) := by decide +kernel
set_option maxRecDepth 100000 in
theorem f_188_1894 : xft 188 1894 = some (.iaload) := by decide +kernel
set_option maxRecDepth 100000 in
theorem f_188_1895 : xft 188 1895 = some (.aload_n 0) := by decide +kernel
set_option maxRecDepth 100000 in
theorem f_188_1896 : xft 188 1896 = some (.iload 4) := by decide +kernel
set_option maxRecDepth 100000 in
theorem f_188_1898 : xft 188 1898 = some (.iconst 2) := by decide +kernel
set_option maxRecDepth 100000 in
theorem f_188_1899 : xft 188 1899 = some (.iadd) := by decide +kernel
set_option maxRecDepth 100000 in
theorem f_188_1900 : xft 188 1900 = some (.iaload) := by decide +kernel
set_option maxRecDepth 100000 in
theorem f_188_1901 : xft 188 1901 = some (.aload_n 0) := by decide +kernel
set_option maxRecDepth 100000 in
theorem f_188_1902 : xft 188 1902 = some (.iload 4) := by decide +kernel
set_option maxRecDepth 100000 in
theorem f_188_1904 : xft 188 1904 = some (.iconst 3) := by decide +kernel
set_option maxRecDepth 100000 in
theorem f_188_1905 : xft 188 1905 = some (.iadd) := by decide +kernel
set_option maxRecDepth 100000 in
theorem f_188_1906 : xft 188 1906 = some (.iaload) := by decide +kernel
set_option maxRecDepth 100000 in
theorem f_188_1907 : xft 188 1907 = some (.aload_n 0) := by decide +kernel
set_option maxRecDepth 100000 in
theorem f_188_1908 : xft 188 1908 = some (.iload 4) := by decide +kernel
set_option maxRecDepth 100000 in
theorem f_188_1910 : xft 188 1910 = some (.iconst 4) := by decide +kernel
set_option maxRecDepth 100000 in
theorem f_188_1911 : xft 188 1911 = some (.iadd) := by decide +kernel
set_option maxRecDepth 100000 in
theorem f_188_1912 : xft 188 1912 = some (.iaload) := by decide +kernel
set_option maxRecDepth 100000 in
theorem f_188_1913 : xft 188 1913 = some (.invokevirtual 188) := by decide +kernel
set_option maxRecDepth 100000 in
theorem f_188_1916 : xft 188 1916 = some (.istore 6) := by decide +kernel
set_option maxRecDepth 100000 in
theorem f_188_1918 : xft 188 1918 = some (.aload_n 2) := by decide +kernel
set_option maxRecDepth 100000 in
theorem f_188_1919 : xft 188 1919 = some (.invokevirtual 117) := by decide +kernel
set_option maxRecDepth 100000 in
theorem f_188_1922 : xft 188 1922 = some (.iload 5) := by decide +kernel
set_option maxRecDepth 100000 in
theorem f_188_1924 : xft 188 1924 = some (.if_icmp .eq 5) := by decide +kernel
set_option maxRecDepth 100000 in
theorem f_188_1927 : xft 188 1927 = some (.iconst 0) := by decide +kernel
set_option maxRecDepth 100000 in
theorem f_188_1928 : xft 188 1928 = some (.ireturn) := by decide +kernel
set_option maxRecDepth 100000 in
theorem f_188_1929 : xft 188 1929 = some (.iload 5) := by decide +kernel
set_option maxRecDepth 100000 in
theorem f_188_1931 : xft 188 1931 = some (.ifCond .ne 15) := by decide +kernel
set_option maxRecDepth 100000 in
theorem f_188_1934 : xft 188 1934 = some (.aload_n 3) := by decide +kernel
set_option maxRecDepth 100000 in
theorem f_188_1935 : xft 188 1935 = some (.iconst 0) := by decide +kernel
set_option maxRecDepth 100000 in
theorem f_188_1936 : xft 188 1936 = some (.laload) := by decide +kernel
set_option maxRecDepth 100000 in
theorem f_188_1937 : xft 188 1937 = some (.iload 6) := by decide +kernel
set_option maxRecDepth 100000 in
theorem f_188_1939 : xft 188 1939 = some (.i2l) := by decide +kernel
set_option maxRecDepth 100000 in
theorem f_188_1940 : xft 188 1940 = some (.lcmp) := by decide +kernel
set_option maxRecDepth 100000 in
theorem f_188_1941 : xft 188 1941 = some (.ifCond .eq 5) := by decide +kernel
set_option maxRecDepth 100000 in
theorem f_188_1944 : xft 188 1944 = some (.iconst 0) := by decide +kernel
set_option maxRecDepth 100000 in
theorem f_188_1945 : xft 188 1945 = some (.ireturn) := by decide +kernel
set_option maxRecDepth 100000 in
theorem f_188_1946 : xft 188 1946 = some (.goto 522) := by decide +kernel
set_option maxRecDepth 100000 in
theorem f_188_1949 : xft 188 1949 = some (.aload_n 1) := by decide +kernel
set_option maxRecDepth 100000 in
theorem f_188_1950 : xft 188 1950 = some (.aload_n 0) := by decide +kernel
set_option maxRecDepth 100000 in
theorem f_188_1951 : xft 188 1951 = some (.iload 4) := by decide +kernel
set_option maxRecDepth 100000 in
theorem f_188_1953 : xft 188 1953 = some (.iconst 1) := by decide +kernel
set_option maxRecDepth 100000 in
theorem f_188_1954 : xft 188 1954 = some (.iadd) := by decide +kernel
set_option maxRecDepth 100000 in
theorem f_188_1955 : xft 188 1955 = some (.iaload) := by decide +kernel
set_option maxRecDepth 100000 in
theorem f_188_1956 : xft 188 1956 = some (.aload_n 0) := by decide +kernel
set_option maxRecDepth 100000 in
theorem f_188_1957 : xft 188 1957 = some (.iload 4) := by decide +kernel
set_option maxRecDepth 100000 in
theorem f_188_1959 : xft 188 1959 = some (.iconst 2) := by decide +kernel
set_option maxRecDepth 100000 in
theorem f_188_1960 : xft 188 1960 = some (.iadd) := by decide +kernel
set_option maxRecDepth 100000 in
theorem f_188_1961 : xft 188 1961 = some (.iaload) := by decide +kernel
set_option maxRecDepth 100000 in
theorem f_188_1962 : xft 188 1962 = some (.aload_n 0) := by decide +kernel
set_option maxRecDepth 100000 in
theorem f_188_1963 : xft 188 1963 = some (.iload 4) := by decide +kernel
set_option maxRecDepth 100000 in
theorem f_188_1965 : xft 188 1965 = some (.iconst 3) := by decide +kernel
set_option maxRecDepth 100000 in
theorem f_188_1966 : xft 188 1966 = some (.iadd) := by decide +kernel
set_option maxRecDepth 100000 in
theorem f_188_1967 : xft 188 1967 = some (.iaload) := by decide +kernel
set_option maxRecDepth 100000 in
theorem f_188_1968 : xft 188 1968 = some (.aload_n 3) := by decide +kernel
set_option maxRecDepth 100000 in
theorem f_188_1969 : xft 188 1969 = some (.invokestatic 189) := by decide +kernel
set_option maxRecDepth 100000 in
theorem f_188_1972 : xft 188 1972 = some (.istore 5) := by decide +kernel
set_option maxRecDepth 100000 in
theorem f_188_1974 : xft 188 1974 = some (.aload_n 2) := by decide +kernel
set_option maxRecDepth 100000 in
theorem f_188_1975 : xft 188 1975 = some (.aload_n 0) := by decide +kernel
set_option maxRecDepth 100000 in
theorem f_188_1976 : xft 188 1976 = some (.iload 4) := by decide +kernel
set_option maxRecDepth 100000 in
theorem f_188_1978 : xft 188 1978 = some (.iconst 1) := by decide +kernel
set_option maxRecDepth 100000 in
theorem f_188_1979 : xft 188 1979 = some (.iadd) := by decide +kernel
set_option maxRecDepth 100000 in
theorem f_188_1980 : xft 188 1980 = some (.iaload) := by decide +kernel
set_option maxRecDepth 100000 in
theorem f_188_1981 : xft 188 1981 = some (.aload_n 0) := by decide +kernel
set_option maxRecDepth 100000 in
theorem f_188_1982 : xft 188 1982 = some (.iload 4) := by decide +kernel
set_option maxRecDepth 100000 in
theorem f_188_1984 : xft 188 1984 = some (.iconst 2) := by decide +kernel
set_option maxRecDepth 100000 in
theorem f_188_1985 : xft 188 1985 = some (.iadd) := by decide +kernel
set_option maxRecDepth 100000 in
theorem f_188_1986 : xft 188 1986 = some (.iaload) := by decide +kernel
set_option maxRecDepth 100000 in
theorem f_188_1987 : xft 188 1987 = some (.aload_n 0) := by decide +kernel
set_option maxRecDepth 100000 in
theorem f_188_1988 : xft 188 1988 = some (.iload 4) := by decide +kernel
set_option maxRecDepth 100000 in
theorem f_188_1990 : xft 188 1990 = some (.iconst 3) := by decide +kernel
set_option maxRecDepth 100000 in
theorem f_188_1991 : xft 188 1991 = some (.iadd) := by decide +kernel
set_option maxRecDepth 100000 in
theorem f_188_1992 : xft 188 1992 = some (.iaload) := by decide +kernel
set_option maxRecDepth 100000 in
theorem f_188_1993 : xft 188 1993 = some (.invokevirtual 191) := by decide +kernel
set_option maxRecDepth 100000 in
theorem f_188_1996 : xft 188 1996 = some (.istore 6) := by decide +kernel
set_option maxRecDepth 100000 in
theorem f_188_1998 : xft 188 1998 = some (.aload_n 2) := by decide +kernel
set_option maxRecDepth 100000 in
theorem f_188_1999 : xft 188 1999 = some (.invokevirtual 117) := by decide +kernel
set_option maxRecDepth 100000 in
theorem f_188_2002 : xft 188 2002 = some (.iload 5) := by decide +kernel
set_option maxRecDepth 100000 in
theorem f_188_2004 : xft 188 2004 = some (.if_icmp .eq 5) := by decide +kernel
set_option maxRecDepth 100000 in
theorem f_188_2007 : xft 188 2007 = some (.iconst 0) := by decide +kernel
set_option maxRecDepth 100000 in
theorem f_188_2008 : xft 188 2008 = some (.ireturn) := by decide +kernel
set_option maxRecDepth 100000 in
theorem f_188_2009 : xft 188 2009 = some (.iload 5) := by decide +kernel
set_option maxRecDepth 100000 in
theorem f_188_2011 : xft 188 2011 = some (.ifCond .ne 15) := by decide +kernel
set_option maxRecDepth 100000 in
theorem f_188_2014 : xft 188 2014 = some (.aload_n 3) := by decide +kernel
set_option maxRecDepth 100000 in
theorem f_188_2015 : xft 188 2015 = some (.iconst 0) := by decide +kernel
set_option maxRecDepth 100000 in
theorem f_188_2016 : xft 188 2016 = some (.laload) := by decide +kernel
set_option maxRecDepth 100000 in
theorem f_188_2017 : xft 188 2017 = some (.iload 6) := by decide +kernel
set_option maxRecDepth 100000 in
theorem f_188_2019 : xft 188 2019 = some (.i2l) := by decide +kernel
set_option maxRecDepth 100000 in
theorem f_188_2020 : xft 188 2020 = some (.lcmp) := by decide +kernel
set_option maxRecDepth 100000 in
theorem f_188_2021 : xft 188 2021 = some (.ifCond .eq 5) := by decide +kernel
set_option maxRecDepth 100000 in
theorem f_188_2024 : xft 188 2024 = some (.iconst 0) := by decide +kernel
set_option maxRecDepth 100000 in
theorem f_188_2025 : xft 188 2025 = some (.ireturn) := by decide +kernel
set_option maxRecDepth 100000 in
theorem f_188_2026 : xft 188 2026 = some (.goto 442) := by decide +kernel
set_option maxRecDepth 100000 in
theorem f_188_2029 : xft 188 2029 = some (.aload_n 1) := by decide +kernel
set_option maxRecDepth 100000 in
theorem f_188_2030 : xft 188 2030 = some (.aload_n 0) := by decide +kernel
set_option maxRecDepth 100000 in
theorem f_188_2031 : xft 188 2031 = some (.iload 4) := by decide +kernel
set_option maxRecDepth 100000 in
theorem f_188_2033 : xft 188 2033 = some (.iconst 1) := by decide +kernel
set_option maxRecDepth 100000 in
theorem f_188_2034 : xft 188 2034 = some (.iadd) := by decide +kernel
set_option maxRecDepth 100000 in
theorem f_188_2035 : xft 188 2035 = some (.iaload) := by decide +kernel
set_option maxRecDepth 100000 in
theorem f_188_2036 : xft 188 2036 = some (.aload_n 0) := by decide +kernel
set_option maxRecDepth 100000 in
theorem f_188_2037 : xft 188 2037 = some (.iload 4) := by decide +kernel
set_option maxRecDepth 100000 in
theorem f_188_2039 : xft 188 2039 = some (.iconst 2) := by decide +kernel
set_option maxRecDepth 100000 in
theorem f_188_2040 : xft 188 2040 = some (.iadd) := by decide +kernel
set_option maxRecDepth 100000 in
theorem f_188_2041 : xft 188 2041 = some (.iaload) := by decide +kernel
set_option maxRecDepth 100000 in
theorem f_188_2042 : xft 188 2042 = some (.aload_n 0) := by decide +kernel
set_option maxRecDepth 100000 in
theorem f_188_2043 : xft 188 2043 = some (.iload 4) := by decide +kernel
set_option maxRecDepth 100000 in
theorem f_188_2045 : xft 188 2045 = some (.iconst 3) := by decide +kernel
set_option maxRecDepth 100000 in
theorem f_188_2046 : xft 188 2046 = some (.iadd) := by decide +kernel
set_option maxRecDepth 100000 in
theorem f_188_2047 : xft 188 2047 = some (.iaload) := by decide +kernel
set_option maxRecDepth 100000 in
theorem f_188_2048 : xft 188 2048 = some (.aload_n 0) := by decide +kernel
set_option maxRecDepth 100000 in
theorem f_188_2049 : xft 188 2049 = some (.iload 4) := by decide +kernel
set_option maxRecDepth 100000 in
theorem f_188_2051 : xft 188 2051 = some (.iconst 4) := by decide +kernel
set_option maxRecDepth 100000 in
theorem f_188_2052 : xft 188 2052 = some (.iadd) := by decide +kernel
set_option maxRecDepth 100000 in
theorem f_188_2053 : xft 188 2053 = some (.iaload) := by decide +kernel
set_option maxRecDepth 100000 in
theorem f_188_2054 : xft 188 2054 = some (.aload_n 0) := by decide +kernel
set_option maxRecDepth 100000 in
theorem f_188_2055 : xft 188 2055 = some (.iload 4) := by decide +kernel
set_option maxRecDepth 100000 in
theorem f_188_2057 : xft 188 2057 = some (.iconst 5) := by decide +kernel
set_option maxRecDepth 100000 in
theorem f_188_2058 : xft 188 2058 = some (.iadd) := by decide +kernel
set_option maxRecDepth 100000 in
theorem f_188_2059 : xft 188 2059 = some (.iaload) := by decide +kernel
set_option maxRecDepth 100000 in
theorem f_188_2060 : xft 188 2060 = some (.aload_n 0) := by decide +kernel
set_option maxRecDepth 100000 in
theorem f_188_2061 : xft 188 2061 = some (.iload 4) := by decide +kernel
set_option maxRecDepth 100000 in
theorem f_188_2063 : xft 188 2063 = some (.bipush 6) := by decide +kernel
set_option maxRecDepth 100000 in
theorem f_188_2065 : xft 188 2065 = some (.iadd) := by decide +kernel
set_option maxRecDepth 100000 in
theorem f_188_2066 : xft 188 2066 = some (.iaload) := by decide +kernel
set_option maxRecDepth 100000 in
theorem f_188_2067 : xft 188 2067 = some (.aload_n 3) := by decide +kernel
set_option maxRecDepth 100000 in
theorem f_188_2068 : xft 188 2068 = some (.invokestatic 192) := by decide +kernel
set_option maxRecDepth 100000 in
theorem f_188_2071 : xft 188 2071 = some (.istore 5) := by decide +kernel
set_option maxRecDepth 100000 in
theorem f_188_2073 : xft 188 2073 = some (.aload_n 2) := by decide +kernel
set_option maxRecDepth 100000 in
theorem f_188_2074 : xft 188 2074 = some (.aload_n 0) := by decide +kernel
set_option maxRecDepth 100000 in
theorem f_188_2075 : xft 188 2075 = some (.iload 4) := by decide +kernel
set_option maxRecDepth 100000 in
theorem f_188_2077 : xft 188 2077 = some (.iconst 1) := by decide +kernel
set_option maxRecDepth 100000 in
theorem f_188_2078 : xft 188 2078 = some (.iadd) := by decide +kernel
set_option maxRecDepth 100000 in
theorem f_188_2079 : xft 188 2079 = some (.iaload) := by decide +kernel
set_option maxRecDepth 100000 in
theorem f_188_2080 : xft 188 2080 = some (.aload_n 0) := by decide +kernel
set_option maxRecDepth 100000 in
theorem f_188_2081 : xft 188 2081 = some (.iload 4) := by decide +kernel
set_option maxRecDepth 100000 in
theorem f_188_2083 : xft 188 2083 = some (.iconst 2) := by decide +kernel
set_option maxRecDepth 100000 in
theorem f_188_2084 : xft 188 2084 = some (.iadd) := by decide +kernel
set_option maxRecDepth 100000 in
theorem f_188_2085 : xft 188 2085 = some (.iaload) := by decide +kernel
set_option maxRecDepth 100000 in
theorem f_188_2086 : xft 188 2086 = some (.aload_n 0) := by decide +kernel
set_option maxRecDepth 100000 in
theorem f_188_2087 : xft 188 2087 = some (.iload 4) := by decide +kernel
set_option maxRecDepth 100000 in
theorem f_188_2089 : xft 188 2089 = some (.iconst 3) := by decide +kernel
set_option maxRecDepth 100000 in
theorem f_188_2090 : xft 188 2090 = some (.iadd) := by decide +kernel
set_option maxRecDepth 100000 in
theorem f_188_2091 : xft 188 2091 = some (.iaload) := by decide +kernel
set_option maxRecDepth 100000 in
theorem f_188_2092 : xft 188 2092 = some (.aload_n 0) := by decide +kernel
set_option maxRecDepth 100000 in
theorem f_188_2093 : xft 188 2093 = some (.iload 4) := by decide +kernel
set_option maxRecDepth 100000 in
theorem f_188_2095 : xft 188 2095 = some (.iconst 4) := by decide +kernel
set_option maxRecDepth 100000 in
theorem f_188_2096 : xft 188 2096 = some (.iadd) := by decide +kernel
set_option maxRecDepth 100000 in
theorem f_188_2097 : xft 188 2097 = some (.iaload) := by decide +kernel
set_option maxRecDepth 100000 in
theorem f_188_2098 : xft 188 2098 = some (.aload_n 0) := by decide +kernel
set_option maxRecDepth 100000 in
theorem f_188_2099 : xft 188 2099 = some (.iload 4) := by decide +kernel
set_option maxRecDepth 100000 in
theorem f_188_2101 : xft 188 2101 = some (.iconst 5) := by decide +kernel
set_option maxRecDepth 100000 in
theorem f_188_2102 : xft 188 2102 = some (.iadd) := by decide +kernel
set_option maxRecDepth 100000 in
theorem f_188_2103 : xft 188 2103 = some (.iaload) := by decide +kernel
set_option maxRecDepth 100000 in
theorem f_188_2104 : xft 188 2104 = some (.aload_n 0) := by decide +kernel
set_option maxRecDepth 100000 in
theorem f_188_2105 : xft 188 2105 = some (.iload 4) := by decide +kernel
set_option maxRecDepth 100000 in
theorem f_188_2107 : xft 188 2107 = some (.bipush 6) := by decide +kernel
set_option maxRecDepth 100000 in
theorem f_188_2109 : xft 188 2109 = some (.iadd) := by decide +kernel
set_option maxRecDepth 100000 in
theorem f_188_2110 : xft 188 2110 = some (.iaload) := by decide +kernel
set_option maxRecDepth 100000 in
theorem f_188_2111 : xft 188 2111 = some (.invokevirtual 195) := by decide +kernel
set_option maxRecDepth 100000 in
theorem f_188_2114 : xft 188 2114 = some (.istore 6) := by decide +kernel
set_option maxRecDepth 100000 in
theorem f_188_2116 : xft 188 2116 = some (.aload_n 2) := by decide +kernel
set_option maxRecDepth 100000 in
theorem f_188_2117 : xft 188 2117 = some (.invokevirtual 117) := by decide +kernel
set_option maxRecDepth 100000 in
theorem f_188_2120 : xft 188 2120 = some (.iload 5) := by decide +kernel
set_option maxRecDepth 100000 in
theorem f_188_2122 : xft 188 2122 = some (.if_icmp .eq 5) := by decide +kernel
set_option maxRecDepth 100000 in
theorem f_188_2125 : xft 188 2125 = some (.iconst 0) := by decide +kernel
set_option maxRecDepth 100000 in
theorem f_188_2126 : xft 188 2126 = some (.ireturn) := by decide +kernel
set_option maxRecDepth 100000 in
theorem f_188_2127 : xft 188 2127 = some (.iload 5) := by decide +kernel
set_option maxRecDepth 100000 in
theorem f_188_2129 : xft 188 2129 = some (.ifCond .ne 15) := by decide +kernel
set_option maxRecDepth 100000 in
theorem f_188_2132 : xft 188 2132 = some (.aload_n 3) := by decide +kernel
set_option maxRecDepth 100000 in
theorem f_188_2133 : xft 188 2133 = some (.iconst 0) := by decide +kernel
set_option maxRecDepth 100000 in
theorem f_188_2134 : xft 188 2134 = some (.laload) := by decide +kernel
set_option maxRecDepth 100000 in
theorem f_188_2135 : xft 188 2135 = some (.iload 6) := by decide +kernel
set_option maxRecDepth 100000 in
theorem f_188_2137 : xft 188 2137 = some (.i2l) := by decide +kernel
set_option maxRecDepth 100000 in
theorem f_188_2138 : xft 188 2138 = some (.lcmp) := by decide +kernel
set_option maxRecDepth 100000 in
theorem f_188_2139 : xft 188 2139 = some (.ifCond .eq 5) := by decide +kernel
set_option maxRecDepth 100000 in
theorem f_188_2142 : xft 188 2142 = some (.iconst 0) := by decide +kernel
set_option maxRecDepth 100000 in
theorem f_188_2143 : xft 188 2143 = some (.ireturn) := by decide +kernel
set_option maxRecDepth 100000 in
theorem f_188_2144 : xft 188 2144 = some (.goto 324) := by decide +kernel
set_option maxRecDepth 100000 in
theorem f_188_2147 : xft 188 2147 = some (.aload_n 1) := by decide +kernel
set_option maxRecDepth 100000 in
theorem f_188_2148 : xft 188 2148 = some (.aload_n 0) := by decide +kernel
set_option maxRecDepth 100000 in
theorem f_188_2149 : xft 188 2149 = some (.iload 4) := by decide +kernel
set_option maxRecDepth 100000 in
theorem f_188_2151 : xft 188 2151 = some (.iconst 1) := by decide +kernel
set_option maxRecDepth 100000 in
theorem f_188_2152 : xft 188 2152 = some (.iadd) := by decide +kernel
set_option maxRecDepth 100000 in
theorem f_188_2153 : xft 188 2153 = some (.iaload) := by decide +kernel
set_option maxRecDepth 100000 in
theorem f_188_2154 : xft 188 2154 = some (.aload_n 3) := by decide +kernel
set_option maxRecDepth 100000 in
theorem f_188_2155 : xft 188 2155 = some (.invokestatic 196) := by decide +kernel
set_option maxRecDepth 100000 in
theorem f_188_2158 : xft 188 2158 = some (.istore 5) := by decide +kernel
set_option maxRecDepth 100000 in
theorem f_188_2160 : xft 188 2160 = some (.aload_n 2) := by decide +kernel
set_option maxRecDepth 100000 in
theorem f_188_2161 : xft 188 2161 = some (.aload_n 0) := by decide +kernel
set_option maxRecDepth 100000 in
theorem f_188_2162 : xft 188 2162 = some (.iload 4) := by decide +kernel
set_option maxRecDepth 100000 in
theorem f_188_2164 : xft 188 2164 = some (.iconst 1) := by decide +kernel
set_option maxRecDepth 100000 in
theorem f_188_2165 : xft 188 2165 = some (.iadd) := by decide +kernel
set_option maxRecDepth 100000 in
theorem f_188_2166 : xft 188 2166 = some (.iaload) := by decide +kernel
set_option maxRecDepth 100000 in
theorem f_188_2167 : xft 188 2167 = some (.invokevirtual 198) := by decide +kernel
set_option maxRecDepth 100000 in
theorem f_188_2170 : xft 188 2170 = some (.istore 6) := by decide +kernel
set_option maxRecDepth 100000 in
theorem f_188_2172 : xft 188 2172 = some (.aload_n 2) := by decide +kernel
set_option maxRecDepth 100000 in
theorem f_188_2173 : xft 188 2173 = some (.invokevirtual 117) := by decide +kernel
set_option maxRecDepth 100000 in
theorem f_188_2176 : xft 188 2176 = some (.iload 5) := by decide +kernel
set_option maxRecDepth 100000 in
theorem f_188_2178 : xft 188 2178 = some (.if_icmp .eq 5) := by decide +kernel
set_option maxRecDepth 100000 in
theorem f_188_2181 : xft 188 2181 = some (.iconst 0) := by decide +kernel
set_option maxRecDepth 100000 in
theorem f_188_2182 : xft 188 2182 = some (.ireturn) := by decide +kernel
set_option maxRecDepth 100000 in
theorem f_188_2183 : xft 188 2183 = some (.iload 5) := by decide +kernel
set_option maxRecDepth 100000 in
theorem f_188_2185 : xft 188 2185 = some (.ifCond .ne 15) := by decide +kernel
set_option maxRecDepth 100000 in
theorem f_188_2188 : xft 188 2188 = some (.aload_n 3) := by decide +kernel
set_option maxRecDepth 100000 in
theorem f_188_2189 : xft 188 2189 = some (.iconst 0) := by decide +kernel
set_option maxRecDepth 100000 in
theorem f_188_2190 : xft 188 2190 = some (.laload) := by decide +kernel
set_option maxRecDepth 100000 in
theorem f_188_2191 : xft 188 2191 = some (.iload 6) := by decide +kernel
set_option maxRecDepth 100000 in
theorem f_188_2193 : xft 188 2193 = some (.i2l) := by decide +kernel
set_option maxRecDepth 100000 in
theorem f_188_2194 : xft 188 2194 = some (.lcmp) := by decide +kernel
set_option maxRecDepth 100000 in
theorem f_188_2195 : xft 188 2195 = some (.ifCond .eq 5) := by decide +kernel
set_option maxRecDepth 100000 in
theorem f_188_2198 : xft 188 2198 = some (.iconst 0) := by decide +kernel
set_option maxRecDepth 100000 in
theorem f_188_2199 : xft 188 2199 = some (.ireturn) := by decide +kernel
set_option maxRecDepth 100000 in
theorem f_188_2200 : xft 188 2200 = some (.goto 268) := by decide +kernel
set_option maxRecDepth 100000 in
theorem f_188_2203 : xft 188 2203 = some (.aload_n 1) := by decide +kernel
set_option maxRecDepth 100000 in
theorem f_188_2204 : xft 188 2204 = some (.aload_n 0) := by decide +kernel
set_option maxRecDepth 100000 in
theorem f_188_2205 : xft 188 2205 = some (.iload 4) := by decide +kernel
set_option maxRecDepth 100000 in
theorem f_188_2207 : xft 188 2207 = some (.iconst 1) := by decide +kernel
set_option maxRecDepth 100000 in
theorem f_188_2208 : xft 188 2208 = some (.iadd) := by decide +kernel
set_option maxRecDepth 100000 in
theorem f_188_2209 : xft 188 2209 = some (.iaload) := by decide +kernel
set_option maxRecDepth 100000 in
theorem f_188_2210 : xft 188 2210 = some (.aload_n 0) := by decide +kernel
set_option maxRecDepth 100000 in
theorem f_188_2211 : xft 188 2211 = some (.iload 4) := by decide +kernel
set_option maxRecDepth 100000 in
theorem f_188_2213 : xft 188 2213 = some (.iconst 2) := by decide +kernel
set_option maxRecDepth 100000 in
theorem f_188_2214 : xft 188 2214 = some (.iadd) := by decide +kernel
set_option maxRecDepth 100000 in
theorem f_188_2215 : xft 188 2215 = some (.iaload) := by decide +kernel
set_option maxRecDepth 100000 in
theorem f_188_2216 : xft 188 2216 = some (.aload_n 0) := by decide +kernel
set_option maxRecDepth 100000 in
theorem f_188_2217 : xft 188 2217 = some (.iload 4) := by decide +kernel
set_option maxRecDepth 100000 in
theorem f_188_2219 : xft 188 2219 = some (.iconst 3) := by decide +kernel
set_option maxRecDepth 100000 in
theorem f_188_2220 : xft 188 2220 = some (.iadd) := by decide +kernel
set_option maxRecDepth 100000 in
theorem f_188_2221 : xft 188 2221 = some (.iaload) := by decide +kernel
set_option maxRecDepth 100000 in
theorem f_188_2222 : xft 188 2222 = some (.aload_n 3) := by decide +kernel
set_option maxRecDepth 100000 in
theorem f_188_2223 : xft 188 2223 = some (.invokestatic 199) := by decide +kernel
set_option maxRecDepth 100000 in
theorem f_188_2226 : xft 188 2226 = some (.istore 5) := by decide +kernel
set_option maxRecDepth 100000 in
theorem f_188_2228 : xft 188 2228 = some (.aload_n 2) := by decide +kernel
set_option maxRecDepth 100000 in
theorem f_188_2229 : xft 188 2229 = some (.aload_n 0) := by decide +kernel
set_option maxRecDepth 100000 in
theorem f_188_2230 : xft 188 2230 = some (.iload 4) := by decide +kernel
set_option maxRecDepth 100000 in
theorem f_188_2232 : xft 188 2232 = some (.iconst 1) := by decide +kernel
set_option maxRecDepth 100000 in
theorem f_188_2233 : xft 188 2233 = some (.iadd) := by decide +kernel
set_option maxRecDepth 100000 in
theorem f_188_2234 : xft 188 2234 = some (.iaload) := by decide +kernel
set_option maxRecDepth 100000 in
theorem f_188_2235 : xft 188 2235 = some (.aload_n 0) := by decide +kernel
set_option maxRecDepth 100000 in
theorem f_188_2236 : xft 188 2236 = some (.iload 4) := by decide +kernel
set_option maxRecDepth 100000 in
theorem f_188_2238 : xft 188 2238 = some (.iconst 2) := by decide +kernel
set_option maxRecDepth 100000 in
theorem f_188_2239 : xft 188 2239 = some (.iadd) := by decide +kernel
set_option maxRecDepth 100000 in
theorem f_188_2240 : xft 188 2240 = some (.iaload) := by decide +kernel
set_option maxRecDepth 100000 in
theorem f_188_2241 : xft 188 2241 = some (.aload_n 0) := by decide +kernel
set_option maxRecDepth 100000 in
theorem f_188_2242 : xft 188 2242 = some (.iload 4) := by decide +kernel
set_option maxRecDepth 100000 in
theorem f_188_2244 : xft 188 2244 = some (.iconst 3) := by decide +kernel
set_option maxRecDepth 100000 in
theorem f_188_2245 : xft 188 2245 = some (.iadd) := by decide +kernel
set_option maxRecDepth 100000 in
theorem f_188_2246 : xft 188 2246 = some (.iaload) := by decide +kernel
set_option maxRecDepth 100000 in
theorem f_188_2247 : xft 188 2247 = some (.invokevirtual 201) := by decide +kernel
set_option maxRecDepth 100000 in
theorem f_188_2250 : xft 188 2250 = some (.istore 6) := by decide +kernel
set_option maxRecDepth 100000 in
theorem f_188_2252 : xft 188 2252 = some (.aload_n 2) := by decide +kernel
set_option maxRecDepth 100000 in
theorem f_188_2253 : xft 188 2253 = some (.invokevirtual 117) := by decide +kernel
set_option maxRecDepth 100000 in
theorem f_188_2256 : xft 188 2256 = some (.iload 5) := by decide +kernel
set_option maxRecDepth 100000 in
theorem f_188_2258 : xft 188 2258 = some (.if_icmp .eq 5) := by decide +kernel
set_option maxRecDepth 100000 in
theorem f_188_2261 : xft 188 2261 = some (.iconst 0) := by decide +kernel
set_option maxRecDepth 100000 in
theorem f_188_2262 : xft 188 2262 = some (.ireturn) := by decide +kernel
set_option maxRecDepth 100000 in
theorem f_188_2263 : xft 188 2263 = some (.iload 5) := by decide +kernel
set_option maxRecDepth 100000 in
theorem f_188_2265 : xft 188 2265 = some (.ifCond .ne 15) := by decide +kernel
set_option maxRecDepth 100000 in
theorem f_188_2268 : xft 188 2268 = some (.aload_n 3) := by decide +kernel
set_option maxRecDepth 100000 in
theorem f_188_2269 : xft 188 2269 = some (.iconst 0) := by decide +kernel
set_option maxRecDepth 100000 in
theorem f_188_2270 : xft 188 2270 = some (.laload) := by decide +kernel
set_option maxRecDepth 100000 in
theorem f_188_2271 : xft 188 2271 = some (.iload 6) := by decide +kernel
set_option maxRecDepth 100000 in
theorem f_188_2273 : xft 188 2273 = some (.i2l) := by decide +kernel
set_option maxRecDepth 100000 in
theorem f_188_2274 : xft 188 2274 = some (.lcmp) := by decide +kernel
set_option maxRecDepth 100000 in
theorem f_188_2275 : xft 188 2275 = some (.ifCond .eq 5) := by decide +kernel
set_option maxRecDepth 100000 in
theorem f_188_2278 : xft 188 2278 = some (.iconst 0) := by decide +kernel
set_option maxRecDepth 100000 in
theorem f_188_2279 : xft 188 2279 = some (.ireturn) := by decide +kernel
set_option maxRecDepth 100000 in
theorem f_188_2280 : xft 188 2280 = some (.goto 188) := by decide +kernel
set_option maxRecDepth 100000 in
theorem f_188_2283 : xft 188 2283 = some (.aload_n 1) := by decide +kernel
set_option maxRecDepth 100000 in
theorem f_188_2284 : xft 188 2284 = some (.aload_n 0) := by decide +kernel
set_option maxRecDepth 100000 in
theorem f_188_2285 : xft 188 2285 = some (.iload 4) := by decide +kernel
set_option maxRecDepth 100000 in
theorem f_188_2287 : xft 188 2287 = some (.iconst 1) := by decide +kernel
set_option maxRecDepth 100000 in
theorem f_188_2288 : xft 188 2288 = some (.iadd) := by decide +kernel
set_option maxRecDepth 100000 in
theorem f_188_2289 : xft 188 2289 = some (.iaload) := by decide +kernel
set_option maxRecDepth 100000 in
theorem f_188_2290 : xft 188 2290 = some (.aload_n 0) := by decide +kernel
set_option maxRecDepth 100000 in
theorem f_188_2291 : xft 188 2291 = some (.iload 4) := by decide +kernel
set_option maxRecDepth 100000 in
theorem f_188_2293 : xft 188 2293 = some (.iconst 2) := by decide +kernel
set_option maxRecDepth 100000 in
theorem f_188_2294 : xft 188 2294 = some (.iadd) := by decide +kernel
set_option maxRecDepth 100000 in
theorem f_188_2295 : xft 188 2295 = some (.iaload) := by decide +kernel
set_option maxRecDepth 100000 in
theorem f_188_2296 : xft 188 2296 = some (.aload_n 0) := by decide +kernel
set_option maxRecDepth 100000 in
theorem f_188_2297 : xft 188 2297 = some (.iload 4) := by decide +kernel
set_option maxRecDepth 100000 in
theorem f_188_2299 : xft 188 2299 = some (.iconst 3) := by decide +kernel
set_option maxRecDepth 100000 in
theorem f_188_2300 : xft 188 2300 = some (.iadd) := by decide +kernel
set_option maxRecDepth 100000 in
theorem f_188_2301 : xft 188 2301 = some (.iaload) := by decide +kernel
set_option maxRecDepth 100000 in
theorem f_188_2302 : xft 188 2302 = some (.aload_n 0) := by decide +kernel
set_option maxRecDepth 100000 in
theorem f_188_2303 : xft 188 2303 = some (.iload 4) := by decide +kernel
set_option maxRecDepth 100000 in
theorem f_188_2305 : xft 188 2305 = some (.iconst 4) := by decide +kernel
set_option maxRecDepth 100000 in
theorem f_188_2306 : xft 188 2306 = some (.iadd) := by decide +kernel
set_option maxRecDepth 100000 in
theorem f_188_2307 : xft 188 2307 = some (.iaload) := by decide +kernel
set_option maxRecDepth 100000 in
theorem f_188_2308 : xft 188 2308 = some (.aload_n 3) := by decide +kernel
set_option maxRecDepth 100000 in
theorem f_188_2309 : xft 188 2309 = some (.invokestatic 202) := by decide +kernel
set_option maxRecDepth 100000 in
theorem f_188_2312 : xft 188 2312 = some (.istore 5) := by decide +kernel
set_option maxRecDepth 100000 in
theorem f_188_2314 : xft 188 2314 = some (.aload_n 2) := by decide +kernel
set_option maxRecDepth 100000 in
theorem f_188_2315 : xft 188 2315 = some (.aload_n 0) := by decide +kernel
set_option maxRecDepth 100000 in
theorem f_188_2316 : xft 188 2316 = some (.iload 4) := by decide +kernel
set_option maxRecDepth 100000 in
theorem f_188_2318 : xft 188 2318 = some (.iconst 1) := by decide +kernel
set_option maxRecDepth 100000 in
theorem f_188_2319 : xft 188 2319 = some (.iadd) := by decide +kernel
set_option maxRecDepth 100000 in
theorem f_188_2320 : xft 188 2320 = some (.iaload) := by decide +kernel
set_option maxRecDepth 100000 in
theorem f_188_2321 : xft 188 2321 = some (.aload_n 0) := by decide +kernel
set_option maxRecDepth 100000 in
theorem f_188_2322 : xft 188 2322 = some (.iload 4) := by decide +kernel
set_option maxRecDepth 100000 in
theorem f_188_2324 : xft 188 2324 = some (.iconst 2) := by decide +kernel
set_option maxRecDepth 100000 in
theorem f_188_2325 : xft 188 2325 = some (.iadd) := by decide +kernel
set_option maxRecDepth 100000 in
theorem f_188_2326 : xft 188 2326 = some (.iaload) := by decide +kernel
set_option maxRecDepth 100000 in
theorem f_188_2327 : xft 188 2327 = some (.aload_n 0) := by decide +kernel
set_option maxRecDepth 100000 in
theorem f_188_2328 : xft 188 2328 = some (.iload 4) := by decide +kernel
set_option maxRecDepth 100000 in
theorem f_188_2330 : xft 188 2330 = some (.iconst 3) := by decide +kernel
set_option maxRecDepth 100000 in
theorem f_188_2331 : xft 188 2331 = some (.iadd) := by decide +kernel
set_option maxRecDepth 100000 in
theorem f_188_2332 : xft 188 2332 = some (.iaload) := by decide +kernel
set_option maxRecDepth 100000 in
theorem f_188_2333 : xft 188 2333 = some (.aload_n 0) := by decide +kernel
set_option maxRecDepth 100000 in
theorem f_188_2334 : xft 188 2334 = some (.iload 4) := by decide +kernel
set_option maxRecDepth 100000 in
theorem f_188_2336 : xft 188 2336 = some (.iconst 4) := by decide +kernel
set_option maxRecDepth 100000 in
theorem f_188_2337 : xft 188 2337 = some (.iadd) := by decide +kernel
set_option maxRecDepth 100000 in
theorem f_188_2338 : xft 188 2338 = some (.iaload) := by decide +kernel
set_option maxRecDepth 100000 in
theorem f_188_2339 : xft 188 2339 = some (.invokevirtual 204) := by decide +kernel
set_option maxRecDepth 100000 in
theorem f_188_2342 : xft 188 2342 = some (.istore 6) := by decide +kernel
set_option maxRecDepth 100000 in
theorem f_188_2344 : xft 188 2344 = some (.aload_n 2) := by decide +kernel
set_option maxRecDepth 100000 in
theorem f_188_2345 : xft 188 2345 = some (.invokevirtual 117) := by decide +kernel
set_option maxRecDepth 100000 in
theorem f_188_2348 : xft 188 2348 = some (.iload 5) := by decide +kernel
set_option maxRecDepth 100000 in
theorem f_188_2350 : xft 188 2350 = some (.if_icmp .eq 5) := by decide +kernel
set_option maxRecDepth 100000 in
theorem f_188_2353 : xft 188 2353 = some (.iconst 0) := by decide +kernel
set_option maxRecDepth 100000 in
theorem f_188_2354 : xft 188 2354 = some (.ireturn) := by decide +kernel
set_option maxRecDepth 100000 in
theorem f_188_2355 : xft 188 2355 = some (.iload 5) := by decide +kernel
set_option maxRecDepth 100000 in
theorem f_188_2357 : xft 188 2357 = some (.ifCond .ne 15) := by decide +kernel
set_option maxRecDepth 100000 in
theorem f_188_2360 : xft 188 2360 = some (.aload_n 3) := by decide +kernel
set_option maxRecDepth 100000 in
theorem f_188_2361 : xft 188 2361 = some (.iconst 0) := by decide +kernel
set_option maxRecDepth 100000 in
theorem f_188_2362 : xft 188 2362 = some (.laload) := by decide +kernel
set_option maxRecDepth 100000 in
theorem f_188_2363 : xft 188 2363 = some (.iload 6) := by decide +kernel
set_option maxRecDepth 100000 in
theorem f_188_2365 : xft 188 2365 = some (.i2l) := by decide +kernel
set_option maxRecDepth 100000 in
theorem f_188_2366 : xft 188 2366 = some (.lcmp) := by decide +kernel
set_option maxRecDepth 100000 in
theorem f_188_2367 : xft 188 2367 = some (.ifCond .eq 5) := by decide +kernel
set_option maxRecDepth 100000 in
theorem f_188_2370 : xft 188 2370 = some (.iconst 0) := by decide +kernel
set_option maxRecDepth 100000 in
theorem f_188_2371 : xft 188 2371 = some (.ireturn) := by decide +kernel
set_option maxRecDepth 100000 in
theorem f_188_2372 : xft 188 2372 = some (.goto 96) := by decide +kernel
set_option maxRecDepth 100000 in
theorem f_188_2375 : xft 188 2375 = some (.aload_n 1) := by decide +kernel
set_option maxRecDepth 100000 in
theorem f_188_2376 : xft 188 2376 = some (.aload_n 0) := by decide +kernel
set_option maxRecDepth 100000 in
theorem f_188_2377 : xft 188 2377 = some (.iload 4) := by decide +kernel
set_option maxRecDepth 100000 in
theorem f_188_2379 : xft 188 2379 = some (.iconst 1) := by decide +kernel
set_option maxRecDepth 100000 in
theorem f_188_2380 : xft 188 2380 = some (.iadd) := by decide +kernel
set_option maxRecDepth 100000 in
theorem f_188_2381 : xft 188 2381 = some (.iaload) := by decide +kernel
set_option maxRecDepth 100000 in
theorem f_188_2382 : xft 188 2382 = some (.aload_n 0) := by decide +kernel
set_option maxRecDepth 100000 in
theorem f_188_2383 : xft 188 2383 = some (.iload 4) := by decide +kernel
set_option maxRecDepth 100000 in
theorem f_188_2385 : xft 188 2385 = some (.iconst 2) := by decide +kernel
set_option maxRecDepth 100000 in
theorem f_188_2386 : xft 188 2386 = some (.iadd) := by decide +kernel
set_option maxRecDepth 100000 in
theorem f_188_2387 : xft 188 2387 = some (.iaload) := by decide +kernel
set_option maxRecDepth 100000 in
theorem f_188_2388 : xft 188 2388 = some (.aload_n 0) := by decide +kernel
set_option maxRecDepth 100000 in
theorem f_188_2389 : xft 188 2389 = some (.iload 4) := by decide +kernel
set_option maxRecDepth 100000 in
theorem f_188_2391 : xft 188 2391 = some (.iconst 3) := by decide +kernel
set_option maxRecDepth 100000 in
theorem f_188_2392 : xft 188 2392 = some (.iadd) := by decide +kernel
set_option maxRecDepth 100000 in
theorem f_188_2393 : xft 188 2393 = some (.iaload) := by decide +kernel
set_option maxRecDepth 100000 in
theorem f_188_2394 : xft 188 2394 = some (.aload_n 3) := by decide +kernel
set_option maxRecDepth 100000 in
theorem f_188_2395 : xft 188 2395 = some (.invokestatic 205) := by decide +kernel
set_option maxRecDepth 100000 in
theorem f_188_2398 : xft 188 2398 = some (.istore 5) := by decide +kernel
set_option maxRecDepth 100000 in
theorem f_188_2400 : xft 188 2400 = some (.aload_n 2) := by decide +kernel
set_option maxRecDepth 100000 in
theorem f_188_2401 : xft 188 2401 = some (.aload_n 0) := by decide +kernel
set_option maxRecDepth 100000 in
theorem f_188_2402 : xft 188 2402 = some (.iload 4) := by decide +kernel
set_option maxRecDepth 100000 in
theorem f_188_2404 : xft 188 2404 = some (.iconst 1) := by decide +kernel
set_option maxRecDepth 100000 in
theorem f_188_2405 : xft 188 2405 = some (.iadd) := by decide +kernel
set_option maxRecDepth 100000 in
theorem f_188_2406 : xft 188 2406 = some (.iaload) := by decide +kernel
set_option maxRecDepth 100000 in
theorem f_188_2407 : xft 188 2407 = some (.aload_n 0) := by decide +kernel
set_option maxRecDepth 100000 in
theorem f_188_2408 : xft 188 2408 = some (.iload 4) := by decide +kernel
set_option maxRecDepth 100000 in
theorem f_188_2410 : xft 188 2410 = some (.iconst 2) := by decide +kernel
set_option maxRecDepth 100000 in
theorem f_188_2411 : xft 188 2411 = some (.iadd) := by decide +kernel
set_option maxRecDepth 100000 in
theorem f_188_2412 : xft 188 2412 = some (.iaload) := by decide +kernel
set_option maxRecDepth 100000 in
theorem f_188_2413 : xft 188 2413 = some (.aload_n 0) := by decide +kernel
set_option maxRecDepth 100000 in
theorem f_188_2414 : xft 188 2414 = some (.iload 4) := by decide +kernel
set_option maxRecDepth 100000 in
theorem f_188_2416 : xft 188 2416 = some (.iconst 3) := by decide +kernel
set_option maxRecDepth 100000 in
theorem f_188_2417 : xft 188 2417 = some (.iadd) := by decide +kernel
set_option maxRecDepth 100000 in
theorem f_188_2418 : xft 188 2418 = some (.iaload) := by decide +kernel
set_option maxRecDepth 100000 in
theorem f_188_2419 : xft 188 2419 = some (.invokevirtual 207) := by decide +kernel
set_option maxRecDepth 100000 in
theorem f_188_2422 : xft 188 2422 = some (.istore 6) := by decide +kernel
set_option maxRecDepth 100000 in
theorem f_188_2424 : xft 188 2424 = some (.aload_n 2) := by decide +kernel
set_option maxRecDepth 100000 in
theorem f_188_2425 : xft 188 2425 = some (.invokevirtual 117) := by decide +kernel
set_option maxRecDepth 100000 in
theorem f_188_2428 : xft 188 2428 = some (.iload 5) := by decide +kernel
set_option maxRecDepth 100000 in
theorem f_188_2430 : xft 188 2430 = some (.if_icmp .eq 5) := by decide +kernel
set_option maxRecDepth 100000 in
theorem f_188_2433 : xft 188 2433 = some (.iconst 0) := by decide +kernel
set_option maxRecDepth 100000 in
theorem f_188_2434 : xft 188 2434 = some (.ireturn) := by decide +kernel
set_option maxRecDepth 100000 in
theorem f_188_2435 : xft 188 2435 = some (.iload 5) := by decide +kernel
set_option maxRecDepth 100000 in
theorem f_188_2437 : xft 188 2437 = some (.ifCond .ne 15) := by decide +kernel
set_option maxRecDepth 100000 in
theorem f_188_2440 : xft 188 2440 = some (.aload_n 3) := by decide +kernel
set_option maxRecDepth 100000 in
theorem f_188_2441 : xft 188 2441 = some (.iconst 0) := by decide +kernel
set_option maxRecDepth 100000 in
theorem f_188_2442 : xft 188 2442 = some (.laload) := by decide +kernel
set_option maxRecDepth 100000 in
theorem f_188_2443 : xft 188 2443 = some (.iload 6) := by decide +kernel
set_option maxRecDepth 100000 in
theorem f_188_2445 : xft 188 2445 = some (.i2l) := by decide +kernel
set_option maxRecDepth 100000 in
theorem f_188_2446 : xft 188 2446 = some (.lcmp) := by decide +kernel
set_option maxRecDepth 100000 in
theorem f_188_2447 : xft 188 2447 = some (.ifCond .eq 5) := by decide +kernel
set_option maxRecDepth 100000 in
theorem f_188_2450 : xft 188 2450 = some (.iconst 0) := by decide +kernel
set_option maxRecDepth 100000 in
theorem f_188_2451 : xft 188 2451 = some (.ireturn) := by decide +kernel
set_option maxRecDepth 100000 in
theorem f_188_2452 : xft 188 2452 = some (.goto 16) := by decide +kernel
set_option maxRecDepth 100000 in
theorem f_188_2455 : xft 188 2455 = some (.aload_n 1) := by decide +kernel
set_option maxRecDepth 100000 in
theorem f_188_2456 : xft 188 2456 = some (.invokevirtual 208) := by decide +kernel
set_option maxRecDepth 100000 in
theorem f_188_2459 : xft 188 2459 = some (.aload_n 2) := by decide +kernel
set_option maxRecDepth 100000 in
theorem f_188_2460 : xft 188 2460 = some (.invokevirtual 211) := by decide +kernel
set_option maxRecDepth 100000 in
theorem f_188_2463 : xft 188 2463 = some (.if_icmp .eq 5) := by decide +kernel
set_option maxRecDepth 100000 in
theorem f_188_2466 : xft 188 2466 = some (.iconst 0) := by decide +kernel
set_option maxRecDepth 100000 in
theorem f_188_2467 : xft 188 2467 = some (.ireturn) := by decide +kernel
set_option maxRecDepth 100000 in
theorem f_188_2468 : xft 188 2468 = some (.iinc 4 7) := by decide +kernel
set_option maxRecDepth 100000 in
theorem f_188_2471 : xft 188 2471 = some (.goto (-2448)) := by decide +kernel
set_option maxRecDepth 100000 in
theorem f_188_2474 : xft 188 2474 = some (.iconst 1) := by decide +kernel
set_option maxRecDepth 100000 in
theorem f_188_2475 : xft 188 2475 = some (.ireturn) := by decide +kernel
/-! blocks, by program (gen2.py) -/
section BLK
variable {sc : xS} {d : Nat} {T : Nat → Nat × Nat} {z : Nat × Nat} {V : Nat → Nat → Int} {J : Nat → Nat → Int64} {R : Nat → Nat → Option Nat}

end BLK
