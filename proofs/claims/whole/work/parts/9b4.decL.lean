set_option maxRecDepth 20000 in
theorem dL_law_1791 : decode cL_law 1791 = .ok (.iconst 1, 1) := by decide +kernel
set_option maxRecDepth 20000 in
theorem dL_law_1792 : decode cL_law 1792 = .ok (.iadd, 1) := by decide +kernel
set_option maxRecDepth 20000 in
theorem dL_law_1793 : decode cL_law 1793 = .ok (.iaload, 1) := by decide +kernel
set_option maxRecDepth 20000 in
theorem dL_law_1794 : decode cL_law 1794 = .ok (.aload 4, 2) := by decide +kernel
set_option maxRecDepth 20000 in
theorem dL_law_1796 : decode cL_law 1796 = .ok (.invokestatic 254, 3) := by decide +kernel
set_option maxRecDepth 20000 in
theorem dL_law_1799 : decode cL_law 1799 = .ok (.istore 6, 2) := by decide +kernel
set_option maxRecDepth 20000 in
theorem dL_law_1801 : decode cL_law 1801 = .ok (.aload_n 2, 1) := by decide +kernel
set_option maxRecDepth 20000 in
theorem dL_law_1802 : decode cL_law 1802 = .ok (.aload_n 0, 1) := by decide +kernel
set_option maxRecDepth 20000 in
theorem dL_law_1803 : decode cL_law 1803 = .ok (.iload 5, 2) := by decide +kernel
set_option maxRecDepth 20000 in
theorem dL_law_1805 : decode cL_law 1805 = .ok (.iconst 1, 1) := by decide +kernel
set_option maxRecDepth 20000 in
theorem dL_law_1806 : decode cL_law 1806 = .ok (.iadd, 1) := by decide +kernel
set_option maxRecDepth 20000 in
theorem dL_law_1807 : decode cL_law 1807 = .ok (.iaload, 1) := by decide +kernel
set_option maxRecDepth 20000 in
theorem dL_law_1808 : decode cL_law 1808 = .ok (.invokevirtual 257, 3) := by decide +kernel
set_option maxRecDepth 20000 in
theorem dL_law_1811 : decode cL_law 1811 = .ok (.fstore 7, 2) := by decide +kernel
set_option maxRecDepth 20000 in
theorem dL_law_1813 : decode cL_law 1813 = .ok (.aload_n 2, 1) := by decide +kernel
set_option maxRecDepth 20000 in
theorem dL_law_1814 : decode cL_law 1814 = .ok (.invokevirtual 156, 3) := by decide +kernel
set_option maxRecDepth 20000 in
theorem dL_law_1817 : decode cL_law 1817 = .ok (.iload 6, 2) := by decide +kernel
set_option maxRecDepth 20000 in
theorem dL_law_1819 : decode cL_law 1819 = .ok (.if_icmp .eq 5, 3) := by decide +kernel
set_option maxRecDepth 20000 in
theorem dL_law_1822 : decode cL_law 1822 = .ok (.iconst 0, 1) := by decide +kernel
set_option maxRecDepth 20000 in
theorem dL_law_1823 : decode cL_law 1823 = .ok (.ireturn, 1) := by decide +kernel
set_option maxRecDepth 20000 in
theorem dL_law_1824 : decode cL_law 1824 = .ok (.iload 6, 2) := by decide +kernel
set_option maxRecDepth 20000 in
theorem dL_law_1826 : decode cL_law 1826 = .ok (.ifCond .ne 36, 3) := by decide +kernel
set_option maxRecDepth 20000 in
theorem dL_law_1829 : decode cL_law 1829 = .ok (.aload 4, 2) := by decide +kernel
set_option maxRecDepth 20000 in
theorem dL_law_1831 : decode cL_law 1831 = .ok (.iconst 0, 1) := by decide +kernel
set_option maxRecDepth 20000 in
theorem dL_law_1832 : decode cL_law 1832 = .ok (.daload, 1) := by decide +kernel
set_option maxRecDepth 20000 in
theorem dL_law_1833 : decode cL_law 1833 = .ok (.fload 7, 2) := by decide +kernel
set_option maxRecDepth 20000 in
theorem dL_law_1835 : decode cL_law 1835 = .ok (.f2d, 1) := by decide +kernel
set_option maxRecDepth 20000 in
theorem dL_law_1836 : decode cL_law 1836 = .ok (.dcmp .l, 1) := by decide +kernel
set_option maxRecDepth 20000 in
theorem dL_law_1837 : decode cL_law 1837 = .ok (.ifCond .eq 25, 3) := by decide +kernel
set_option maxRecDepth 20000 in
theorem dL_law_1840 : decode cL_law 1840 = .ok (.aload 4, 2) := by decide +kernel
set_option maxRecDepth 20000 in
theorem dL_law_1842 : decode cL_law 1842 = .ok (.iconst 0, 1) := by decide +kernel
set_option maxRecDepth 20000 in
theorem dL_law_1843 : decode cL_law 1843 = .ok (.daload, 1) := by decide +kernel
set_option maxRecDepth 20000 in
theorem dL_law_1844 : decode cL_law 1844 = .ok (.aload 4, 2) := by decide +kernel
set_option maxRecDepth 20000 in
theorem dL_law_1846 : decode cL_law 1846 = .ok (.iconst 0, 1) := by decide +kernel
set_option maxRecDepth 20000 in
theorem dL_law_1847 : decode cL_law 1847 = .ok (.daload, 1) := by decide +kernel
set_option maxRecDepth 20000 in
theorem dL_law_1848 : decode cL_law 1848 = .ok (.dcmp .l, 1) := by decide +kernel
set_option maxRecDepth 20000 in
theorem dL_law_1849 : decode cL_law 1849 = .ok (.ifCond .eq 11, 3) := by decide +kernel
set_option maxRecDepth 20000 in
theorem dL_law_1852 : decode cL_law 1852 = .ok (.fload 7, 2) := by decide +kernel
set_option maxRecDepth 20000 in
theorem dL_law_1854 : decode cL_law 1854 = .ok (.fload 7, 2) := by decide +kernel
set_option maxRecDepth 20000 in
theorem dL_law_1856 : decode cL_law 1856 = .ok (.fcmp .l, 1) := by decide +kernel
set_option maxRecDepth 20000 in
theorem dL_law_1857 : decode cL_law 1857 = .ok (.ifCond .ne 5, 3) := by decide +kernel
set_option maxRecDepth 20000 in
theorem dL_law_1860 : decode cL_law 1860 = .ok (.iconst 0, 1) := by decide +kernel
set_option maxRecDepth 20000 in
theorem dL_law_1861 : decode cL_law 1861 = .ok (.ireturn, 1) := by decide +kernel
set_option maxRecDepth 20000 in
theorem dL_law_1862 : decode cL_law 1862 = .ok (.goto 1467, 3) := by decide +kernel
set_option maxRecDepth 20000 in
theorem dL_law_1865 : decode cL_law 1865 = .ok (.aload_n 1, 1) := by decide +kernel
set_option maxRecDepth 20000 in
theorem dL_law_1866 : decode cL_law 1866 = .ok (.aload_n 0, 1) := by decide +kernel
set_option maxRecDepth 20000 in
theorem dL_law_1867 : decode cL_law 1867 = .ok (.iload 5, 2) := by decide +kernel
set_option maxRecDepth 20000 in
theorem dL_law_1869 : decode cL_law 1869 = .ok (.iconst 1, 1) := by decide +kernel
set_option maxRecDepth 20000 in
theorem dL_law_1870 : decode cL_law 1870 = .ok (.iadd, 1) := by decide +kernel
set_option maxRecDepth 20000 in
theorem dL_law_1871 : decode cL_law 1871 = .ok (.iaload, 1) := by decide +kernel
set_option maxRecDepth 20000 in
theorem dL_law_1872 : decode cL_law 1872 = .ok (.aload_n 0, 1) := by decide +kernel
set_option maxRecDepth 20000 in
theorem dL_law_1873 : decode cL_law 1873 = .ok (.iload 5, 2) := by decide +kernel
set_option maxRecDepth 20000 in
theorem dL_law_1875 : decode cL_law 1875 = .ok (.iconst 2, 1) := by decide +kernel
set_option maxRecDepth 20000 in
theorem dL_law_1876 : decode cL_law 1876 = .ok (.iadd, 1) := by decide +kernel
set_option maxRecDepth 20000 in
theorem dL_law_1877 : decode cL_law 1877 = .ok (.iaload, 1) := by decide +kernel
set_option maxRecDepth 20000 in
theorem dL_law_1878 : decode cL_law 1878 = .ok (.aload_n 3, 1) := by decide +kernel
set_option maxRecDepth 20000 in
theorem dL_law_1879 : decode cL_law 1879 = .ok (.invokestatic 258, 3) := by decide +kernel
set_option maxRecDepth 20000 in
theorem dL_law_1882 : decode cL_law 1882 = .ok (.istore 6, 2) := by decide +kernel
set_option maxRecDepth 20000 in
theorem dL_law_1884 : decode cL_law 1884 = .ok (.aload_n 2, 1) := by decide +kernel
set_option maxRecDepth 20000 in
theorem dL_law_1885 : decode cL_law 1885 = .ok (.aload_n 0, 1) := by decide +kernel
set_option maxRecDepth 20000 in
theorem dL_law_1886 : decode cL_law 1886 = .ok (.iload 5, 2) := by decide +kernel
set_option maxRecDepth 20000 in
theorem dL_law_1888 : decode cL_law 1888 = .ok (.iconst 1, 1) := by decide +kernel
set_option maxRecDepth 20000 in
theorem dL_law_1889 : decode cL_law 1889 = .ok (.iadd, 1) := by decide +kernel
set_option maxRecDepth 20000 in
theorem dL_law_1890 : decode cL_law 1890 = .ok (.iaload, 1) := by decide +kernel
set_option maxRecDepth 20000 in
theorem dL_law_1891 : decode cL_law 1891 = .ok (.aload_n 0, 1) := by decide +kernel
set_option maxRecDepth 20000 in
theorem dL_law_1892 : decode cL_law 1892 = .ok (.iload 5, 2) := by decide +kernel
set_option maxRecDepth 20000 in
theorem dL_law_1894 : decode cL_law 1894 = .ok (.iconst 2, 1) := by decide +kernel
set_option maxRecDepth 20000 in
theorem dL_law_1895 : decode cL_law 1895 = .ok (.iadd, 1) := by decide +kernel
set_option maxRecDepth 20000 in
theorem dL_law_1896 : decode cL_law 1896 = .ok (.iaload, 1) := by decide +kernel
set_option maxRecDepth 20000 in
theorem dL_law_1897 : decode cL_law 1897 = .ok (.invokevirtual 260, 3) := by decide +kernel
set_option maxRecDepth 20000 in
theorem dL_law_1900 : decode cL_law 1900 = .ok (.istore 7, 2) := by decide +kernel
set_option maxRecDepth 20000 in
theorem dL_law_1902 : decode cL_law 1902 = .ok (.aload_n 2, 1) := by decide +kernel
set_option maxRecDepth 20000 in
theorem dL_law_1903 : decode cL_law 1903 = .ok (.invokevirtual 156, 3) := by decide +kernel
set_option maxRecDepth 20000 in
theorem dL_law_1906 : decode cL_law 1906 = .ok (.iload 6, 2) := by decide +kernel
set_option maxRecDepth 20000 in
theorem dL_law_1908 : decode cL_law 1908 = .ok (.if_icmp .eq 5, 3) := by decide +kernel
set_option maxRecDepth 20000 in
theorem dL_law_1911 : decode cL_law 1911 = .ok (.iconst 0, 1) := by decide +kernel
set_option maxRecDepth 20000 in
theorem dL_law_1912 : decode cL_law 1912 = .ok (.ireturn, 1) := by decide +kernel
set_option maxRecDepth 20000 in
theorem dL_law_1913 : decode cL_law 1913 = .ok (.iload 6, 2) := by decide +kernel
set_option maxRecDepth 20000 in
theorem dL_law_1915 : decode cL_law 1915 = .ok (.ifCond .ne 22, 3) := by decide +kernel
set_option maxRecDepth 20000 in
theorem dL_law_1918 : decode cL_law 1918 = .ok (.aload_n 3, 1) := by decide +kernel
set_option maxRecDepth 20000 in
theorem dL_law_1919 : decode cL_law 1919 = .ok (.iconst 0, 1) := by decide +kernel
set_option maxRecDepth 20000 in
theorem dL_law_1920 : decode cL_law 1920 = .ok (.laload, 1) := by decide +kernel
set_option maxRecDepth 20000 in
theorem dL_law_1921 : decode cL_law 1921 = .ok (.iload 7, 2) := by decide +kernel
set_option maxRecDepth 20000 in
theorem dL_law_1923 : decode cL_law 1923 = .ok (.ifCond .eq 7, 3) := by decide +kernel
set_option maxRecDepth 20000 in
theorem dL_law_1926 : decode cL_law 1926 = .ok (.lconst 1, 1) := by decide +kernel
set_option maxRecDepth 20000 in
theorem dL_law_1927 : decode cL_law 1927 = .ok (.goto 4, 3) := by decide +kernel
set_option maxRecDepth 20000 in
theorem dL_law_1930 : decode cL_law 1930 = .ok (.lconst 0, 1) := by decide +kernel
set_option maxRecDepth 20000 in
theorem dL_law_1931 : decode cL_law 1931 = .ok (.lcmp, 1) := by decide +kernel
set_option maxRecDepth 20000 in
theorem dL_law_1932 : decode cL_law 1932 = .ok (.ifCond .eq 5, 3) := by decide +kernel
set_option maxRecDepth 20000 in
theorem dL_law_1935 : decode cL_law 1935 = .ok (.iconst 0, 1) := by decide +kernel
set_option maxRecDepth 20000 in
theorem dL_law_1936 : decode cL_law 1936 = .ok (.ireturn, 1) := by decide +kernel
set_option maxRecDepth 20000 in
theorem dL_law_1937 : decode cL_law 1937 = .ok (.goto 1392, 3) := by decide +kernel
set_option maxRecDepth 20000 in
theorem dL_law_1940 : decode cL_law 1940 = .ok (.aload_n 1, 1) := by decide +kernel
set_option maxRecDepth 20000 in
theorem dL_law_1941 : decode cL_law 1941 = .ok (.aload_n 0, 1) := by decide +kernel
set_option maxRecDepth 20000 in
theorem dL_law_1942 : decode cL_law 1942 = .ok (.iload 5, 2) := by decide +kernel
set_option maxRecDepth 20000 in
theorem dL_law_1944 : decode cL_law 1944 = .ok (.iconst 1, 1) := by decide +kernel
set_option maxRecDepth 20000 in
theorem dL_law_1945 : decode cL_law 1945 = .ok (.iadd, 1) := by decide +kernel
set_option maxRecDepth 20000 in
theorem dL_law_1946 : decode cL_law 1946 = .ok (.iaload, 1) := by decide +kernel
set_option maxRecDepth 20000 in
theorem dL_law_1947 : decode cL_law 1947 = .ok (.aload_n 3, 1) := by decide +kernel
set_option maxRecDepth 20000 in
theorem dL_law_1948 : decode cL_law 1948 = .ok (.invokestatic 261, 3) := by decide +kernel
set_option maxRecDepth 20000 in
theorem dL_law_1951 : decode cL_law 1951 = .ok (.istore 6, 2) := by decide +kernel
set_option maxRecDepth 20000 in
theorem dL_law_1953 : decode cL_law 1953 = .ok (.aload_n 2, 1) := by decide +kernel
set_option maxRecDepth 20000 in
theorem dL_law_1954 : decode cL_law 1954 = .ok (.aload_n 0, 1) := by decide +kernel
set_option maxRecDepth 20000 in
theorem dL_law_1955 : decode cL_law 1955 = .ok (.iload 5, 2) := by decide +kernel
set_option maxRecDepth 20000 in
theorem dL_law_1957 : decode cL_law 1957 = .ok (.iconst 1, 1) := by decide +kernel
set_option maxRecDepth 20000 in
theorem dL_law_1958 : decode cL_law 1958 = .ok (.iadd, 1) := by decide +kernel
set_option maxRecDepth 20000 in
theorem dL_law_1959 : decode cL_law 1959 = .ok (.iaload, 1) := by decide +kernel
set_option maxRecDepth 20000 in
theorem dL_law_1960 : decode cL_law 1960 = .ok (.invokevirtual 263, 3) := by decide +kernel
set_option maxRecDepth 20000 in
theorem dL_law_1963 : decode cL_law 1963 = .ok (.istore 7, 2) := by decide +kernel
set_option maxRecDepth 20000 in
theorem dL_law_1965 : decode cL_law 1965 = .ok (.aload_n 2, 1) := by decide +kernel
set_option maxRecDepth 20000 in
theorem dL_law_1966 : decode cL_law 1966 = .ok (.invokevirtual 156, 3) := by decide +kernel
set_option maxRecDepth 20000 in
theorem dL_law_1969 : decode cL_law 1969 = .ok (.iload 6, 2) := by decide +kernel
set_option maxRecDepth 20000 in
theorem dL_law_1971 : decode cL_law 1971 = .ok (.if_icmp .eq 5, 3) := by decide +kernel
set_option maxRecDepth 20000 in
theorem dL_law_1974 : decode cL_law 1974 = .ok (.iconst 0, 1) := by decide +kernel
set_option maxRecDepth 20000 in
theorem dL_law_1975 : decode cL_law 1975 = .ok (.ireturn, 1) := by decide +kernel
set_option maxRecDepth 20000 in
theorem dL_law_1976 : decode cL_law 1976 = .ok (.iload 6, 2) := by decide +kernel
set_option maxRecDepth 20000 in
theorem dL_law_1978 : decode cL_law 1978 = .ok (.ifCond .ne 15, 3) := by decide +kernel
set_option maxRecDepth 20000 in
theorem dL_law_1981 : decode cL_law 1981 = .ok (.aload_n 3, 1) := by decide +kernel
set_option maxRecDepth 20000 in
theorem dL_law_1982 : decode cL_law 1982 = .ok (.iconst 0, 1) := by decide +kernel
set_option maxRecDepth 20000 in
theorem dL_law_1983 : decode cL_law 1983 = .ok (.laload, 1) := by decide +kernel
set_option maxRecDepth 20000 in
theorem dL_law_1984 : decode cL_law 1984 = .ok (.iload 7, 2) := by decide +kernel
set_option maxRecDepth 20000 in
theorem dL_law_1986 : decode cL_law 1986 = .ok (.i2l, 1) := by decide +kernel
set_option maxRecDepth 20000 in
theorem dL_law_1987 : decode cL_law 1987 = .ok (.lcmp, 1) := by decide +kernel
set_option maxRecDepth 20000 in
theorem dL_law_1988 : decode cL_law 1988 = .ok (.ifCond .eq 5, 3) := by decide +kernel
set_option maxRecDepth 20000 in
theorem dL_law_1991 : decode cL_law 1991 = .ok (.iconst 0, 1) := by decide +kernel
set_option maxRecDepth 20000 in
theorem dL_law_1992 : decode cL_law 1992 = .ok (.ireturn, 1) := by decide +kernel
set_option maxRecDepth 20000 in
theorem dL_law_1993 : decode cL_law 1993 = .ok (.goto 1336, 3) := by decide +kernel
set_option maxRecDepth 20000 in
theorem dL_law_1996 : decode cL_law 1996 = .ok (.aload_n 1, 1) := by decide +kernel
set_option maxRecDepth 20000 in
theorem dL_law_1997 : decode cL_law 1997 = .ok (.invokevirtual 264, 3) := by decide +kernel
set_option maxRecDepth 20000 in
theorem dL_law_2000 : decode cL_law 2000 = .ok (.aload_n 2, 1) := by decide +kernel
set_option maxRecDepth 20000 in
theorem dL_law_2001 : decode cL_law 2001 = .ok (.invokevirtual 267, 3) := by decide +kernel
set_option maxRecDepth 20000 in
theorem dL_law_2004 : decode cL_law 2004 = .ok (.if_icmp .eq 1325, 3) := by decide +kernel
set_option maxRecDepth 20000 in
theorem dL_law_2007 : decode cL_law 2007 = .ok (.iconst 0, 1) := by decide +kernel
set_option maxRecDepth 20000 in
theorem dL_law_2008 : decode cL_law 2008 = .ok (.ireturn, 1) := by decide +kernel
set_option maxRecDepth 20000 in
theorem dL_law_2009 : decode cL_law 2009 = .ok (.aload_n 1, 1) := by decide +kernel
set_option maxRecDepth 20000 in
theorem dL_law_2010 : decode cL_law 2010 = .ok (.aload_n 0, 1) := by decide +kernel
set_option maxRecDepth 20000 in
theorem dL_law_2011 : decode cL_law 2011 = .ok (.iload 5, 2) := by decide +kernel
set_option maxRecDepth 20000 in
theorem dL_law_2013 : decode cL_law 2013 = .ok (.iconst 1, 1) := by decide +kernel
set_option maxRecDepth 20000 in
theorem dL_law_2014 : decode cL_law 2014 = .ok (.iadd, 1) := by decide +kernel
set_option maxRecDepth 20000 in
theorem dL_law_2015 : decode cL_law 2015 = .ok (.iaload, 1) := by decide +kernel
set_option maxRecDepth 20000 in
theorem dL_law_2016 : decode cL_law 2016 = .ok (.aload_n 0, 1) := by decide +kernel
set_option maxRecDepth 20000 in
theorem dL_law_2017 : decode cL_law 2017 = .ok (.iload 5, 2) := by decide +kernel
set_option maxRecDepth 20000 in
theorem dL_law_2019 : decode cL_law 2019 = .ok (.iconst 2, 1) := by decide +kernel
set_option maxRecDepth 20000 in
theorem dL_law_2020 : decode cL_law 2020 = .ok (.iadd, 1) := by decide +kernel
set_option maxRecDepth 20000 in
theorem dL_law_2021 : decode cL_law 2021 = .ok (.iaload, 1) := by decide +kernel
set_option maxRecDepth 20000 in
theorem dL_law_2022 : decode cL_law 2022 = .ok (.aload_n 3, 1) := by decide +kernel
set_option maxRecDepth 20000 in
theorem dL_law_2023 : decode cL_law 2023 = .ok (.invokestatic 268, 3) := by decide +kernel
set_option maxRecDepth 20000 in
theorem dL_law_2026 : decode cL_law 2026 = .ok (.istore 6, 2) := by decide +kernel
set_option maxRecDepth 20000 in
theorem dL_law_2028 : decode cL_law 2028 = .ok (.aload_n 2, 1) := by decide +kernel
set_option maxRecDepth 20000 in
theorem dL_law_2029 : decode cL_law 2029 = .ok (.aload_n 0, 1) := by decide +kernel
set_option maxRecDepth 20000 in
theorem dL_law_2030 : decode cL_law 2030 = .ok (.iload 5, 2) := by decide +kernel
set_option maxRecDepth 20000 in
theorem dL_law_2032 : decode cL_law 2032 = .ok (.iconst 1, 1) := by decide +kernel
set_option maxRecDepth 20000 in
theorem dL_law_2033 : decode cL_law 2033 = .ok (.iadd, 1) := by decide +kernel
set_option maxRecDepth 20000 in
theorem dL_law_2034 : decode cL_law 2034 = .ok (.iaload, 1) := by decide +kernel
set_option maxRecDepth 20000 in
theorem dL_law_2035 : decode cL_law 2035 = .ok (.aload_n 0, 1) := by decide +kernel
set_option maxRecDepth 20000 in
theorem dL_law_2036 : decode cL_law 2036 = .ok (.iload 5, 2) := by decide +kernel
set_option maxRecDepth 20000 in
theorem dL_law_2038 : decode cL_law 2038 = .ok (.iconst 2, 1) := by decide +kernel
set_option maxRecDepth 20000 in
theorem dL_law_2039 : decode cL_law 2039 = .ok (.iadd, 1) := by decide +kernel
set_option maxRecDepth 20000 in
theorem dL_law_2040 : decode cL_law 2040 = .ok (.iaload, 1) := by decide +kernel
set_option maxRecDepth 20000 in
theorem dL_law_2041 : decode cL_law 2041 = .ok (.invokevirtual 270, 3) := by decide +kernel
set_option maxRecDepth 20000 in
theorem dL_law_2044 : decode cL_law 2044 = .ok (.istore 7, 2) := by decide +kernel
set_option maxRecDepth 20000 in
theorem dL_law_2046 : decode cL_law 2046 = .ok (.aload_n 2, 1) := by decide +kernel
set_option maxRecDepth 20000 in
theorem dL_law_2047 : decode cL_law 2047 = .ok (.invokevirtual 156, 3) := by decide +kernel
set_option maxRecDepth 20000 in
theorem dL_law_2050 : decode cL_law 2050 = .ok (.iload 6, 2) := by decide +kernel
set_option maxRecDepth 20000 in
theorem dL_law_2052 : decode cL_law 2052 = .ok (.if_icmp .eq 5, 3) := by decide +kernel
set_option maxRecDepth 20000 in
theorem dL_law_2055 : decode cL_law 2055 = .ok (.iconst 0, 1) := by decide +kernel
set_option maxRecDepth 20000 in
theorem dL_law_2056 : decode cL_law 2056 = .ok (.ireturn, 1) := by decide +kernel
set_option maxRecDepth 20000 in
theorem dL_law_2057 : decode cL_law 2057 = .ok (.iload 6, 2) := by decide +kernel
set_option maxRecDepth 20000 in
theorem dL_law_2059 : decode cL_law 2059 = .ok (.ifCond .ne 15, 3) := by decide +kernel
set_option maxRecDepth 20000 in
theorem dL_law_2062 : decode cL_law 2062 = .ok (.aload_n 3, 1) := by decide +kernel
set_option maxRecDepth 20000 in
theorem dL_law_2063 : decode cL_law 2063 = .ok (.iconst 0, 1) := by decide +kernel
set_option maxRecDepth 20000 in
theorem dL_law_2064 : decode cL_law 2064 = .ok (.laload, 1) := by decide +kernel
set_option maxRecDepth 20000 in
theorem dL_law_2065 : decode cL_law 2065 = .ok (.iload 7, 2) := by decide +kernel
set_option maxRecDepth 20000 in
theorem dL_law_2067 : decode cL_law 2067 = .ok (.i2l, 1) := by decide +kernel
set_option maxRecDepth 20000 in
theorem dL_law_2068 : decode cL_law 2068 = .ok (.lcmp, 1) := by decide +kernel
set_option maxRecDepth 20000 in
theorem dL_law_2069 : decode cL_law 2069 = .ok (.ifCond .eq 5, 3) := by decide +kernel
set_option maxRecDepth 20000 in
theorem dL_law_2072 : decode cL_law 2072 = .ok (.iconst 0, 1) := by decide +kernel
set_option maxRecDepth 20000 in
theorem dL_law_2073 : decode cL_law 2073 = .ok (.ireturn, 1) := by decide +kernel
set_option maxRecDepth 20000 in
theorem dL_law_2074 : decode cL_law 2074 = .ok (.goto 1255, 3) := by decide +kernel
set_option maxRecDepth 20000 in
theorem dL_law_2077 : decode cL_law 2077 = .ok (.aload_n 1, 1) := by decide +kernel
set_option maxRecDepth 20000 in
theorem dL_law_2078 : decode cL_law 2078 = .ok (.aload_n 0, 1) := by decide +kernel
set_option maxRecDepth 20000 in
theorem dL_law_2079 : decode cL_law 2079 = .ok (.iload 5, 2) := by decide +kernel
set_option maxRecDepth 20000 in
theorem dL_law_2081 : decode cL_law 2081 = .ok (.iconst 1, 1) := by decide +kernel
set_option maxRecDepth 20000 in
theorem dL_law_2082 : decode cL_law 2082 = .ok (.iadd, 1) := by decide +kernel
set_option maxRecDepth 20000 in
theorem dL_law_2083 : decode cL_law 2083 = .ok (.iaload, 1) := by decide +kernel
set_option maxRecDepth 20000 in
theorem dL_law_2084 : decode cL_law 2084 = .ok (.aload_n 0, 1) := by decide +kernel
set_option maxRecDepth 20000 in
theorem dL_law_2085 : decode cL_law 2085 = .ok (.iload 5, 2) := by decide +kernel
set_option maxRecDepth 20000 in
theorem dL_law_2087 : decode cL_law 2087 = .ok (.iconst 2, 1) := by decide +kernel
set_option maxRecDepth 20000 in
theorem dL_law_2088 : decode cL_law 2088 = .ok (.iadd, 1) := by decide +kernel
set_option maxRecDepth 20000 in
theorem dL_law_2089 : decode cL_law 2089 = .ok (.iaload, 1) := by decide +kernel
set_option maxRecDepth 20000 in
theorem dL_law_2090 : decode cL_law 2090 = .ok (.aload_n 3, 1) := by decide +kernel
set_option maxRecDepth 20000 in
theorem dL_law_2091 : decode cL_law 2091 = .ok (.invokestatic 271, 3) := by decide +kernel
set_option maxRecDepth 20000 in
theorem dL_law_2094 : decode cL_law 2094 = .ok (.istore 6, 2) := by decide +kernel
set_option maxRecDepth 20000 in
theorem dL_law_2096 : decode cL_law 2096 = .ok (.aload_n 2, 1) := by decide +kernel
set_option maxRecDepth 20000 in
theorem dL_law_2097 : decode cL_law 2097 = .ok (.aload_n 0, 1) := by decide +kernel
set_option maxRecDepth 20000 in
theorem dL_law_2098 : decode cL_law 2098 = .ok (.iload 5, 2) := by decide +kernel
set_option maxRecDepth 20000 in
theorem dL_law_2100 : decode cL_law 2100 = .ok (.iconst 1, 1) := by decide +kernel
set_option maxRecDepth 20000 in
theorem dL_law_2101 : decode cL_law 2101 = .ok (.iadd, 1) := by decide +kernel
set_option maxRecDepth 20000 in
theorem dL_law_2102 : decode cL_law 2102 = .ok (.iaload, 1) := by decide +kernel
set_option maxRecDepth 20000 in
theorem dL_law_2103 : decode cL_law 2103 = .ok (.aload_n 0, 1) := by decide +kernel
set_option maxRecDepth 20000 in
theorem dL_law_2104 : decode cL_law 2104 = .ok (.iload 5, 2) := by decide +kernel
set_option maxRecDepth 20000 in
theorem dL_law_2106 : decode cL_law 2106 = .ok (.iconst 2, 1) := by decide +kernel
set_option maxRecDepth 20000 in
theorem dL_law_2107 : decode cL_law 2107 = .ok (.iadd, 1) := by decide +kernel
set_option maxRecDepth 20000 in
theorem dL_law_2108 : decode cL_law 2108 = .ok (.iaload, 1) := by decide +kernel
set_option maxRecDepth 20000 in
theorem dL_law_2109 : decode cL_law 2109 = .ok (.invokevirtual 273, 3) := by decide +kernel
set_option maxRecDepth 20000 in
theorem dL_law_2112 : decode cL_law 2112 = .ok (.istore 7, 2) := by decide +kernel
set_option maxRecDepth 20000 in
theorem dL_law_2114 : decode cL_law 2114 = .ok (.aload_n 2, 1) := by decide +kernel
set_option maxRecDepth 20000 in
theorem dL_law_2115 : decode cL_law 2115 = .ok (.invokevirtual 156, 3) := by decide +kernel
set_option maxRecDepth 20000 in
theorem dL_law_2118 : decode cL_law 2118 = .ok (.iload 6, 2) := by decide +kernel
set_option maxRecDepth 20000 in
theorem dL_law_2120 : decode cL_law 2120 = .ok (.if_icmp .eq 5, 3) := by decide +kernel
set_option maxRecDepth 20000 in
theorem dL_law_2123 : decode cL_law 2123 = .ok (.iconst 0, 1) := by decide +kernel
set_option maxRecDepth 20000 in
theorem dL_law_2124 : decode cL_law 2124 = .ok (.ireturn, 1) := by decide +kernel
set_option maxRecDepth 20000 in
theorem dL_law_2125 : decode cL_law 2125 = .ok (.iload 6, 2) := by decide +kernel
set_option maxRecDepth 20000 in
theorem dL_law_2127 : decode cL_law 2127 = .ok (.ifCond .ne 15, 3) := by decide +kernel
set_option maxRecDepth 20000 in
theorem dL_law_2130 : decode cL_law 2130 = .ok (.aload_n 3, 1) := by decide +kernel
set_option maxRecDepth 20000 in
theorem dL_law_2131 : decode cL_law 2131 = .ok (.iconst 0, 1) := by decide +kernel
set_option maxRecDepth 20000 in
theorem dL_law_2132 : decode cL_law 2132 = .ok (.laload, 1) := by decide +kernel
set_option maxRecDepth 20000 in
theorem dL_law_2133 : decode cL_law 2133 = .ok (.iload 7, 2) := by decide +kernel
set_option maxRecDepth 20000 in
theorem dL_law_2135 : decode cL_law 2135 = .ok (.i2l, 1) := by decide +kernel
set_option maxRecDepth 20000 in
theorem dL_law_2136 : decode cL_law 2136 = .ok (.lcmp, 1) := by decide +kernel
set_option maxRecDepth 20000 in
theorem dL_law_2137 : decode cL_law 2137 = .ok (.ifCond .eq 5, 3) := by decide +kernel
set_option maxRecDepth 20000 in
theorem dL_law_2140 : decode cL_law 2140 = .ok (.iconst 0, 1) := by decide +kernel
set_option maxRecDepth 20000 in
theorem dL_law_2141 : decode cL_law 2141 = .ok (.ireturn, 1) := by decide +kernel
set_option maxRecDepth 20000 in
theorem dL_law_2142 : decode cL_law 2142 = .ok (.goto 1187, 3) := by decide +kernel
set_option maxRecDepth 20000 in
theorem dL_law_2145 : decode cL_law 2145 = .ok (.aload_n 1, 1) := by decide +kernel
set_option maxRecDepth 20000 in
theorem dL_law_2146 : decode cL_law 2146 = .ok (.aload_n 0, 1) := by decide +kernel
set_option maxRecDepth 20000 in
theorem dL_law_2147 : decode cL_law 2147 = .ok (.iload 5, 2) := by decide +kernel
set_option maxRecDepth 20000 in
theorem dL_law_2149 : decode cL_law 2149 = .ok (.iconst 1, 1) := by decide +kernel
set_option maxRecDepth 20000 in
theorem dL_law_2150 : decode cL_law 2150 = .ok (.iadd, 1) := by decide +kernel
set_option maxRecDepth 20000 in
theorem dL_law_2151 : decode cL_law 2151 = .ok (.iaload, 1) := by decide +kernel
set_option maxRecDepth 20000 in
theorem dL_law_2152 : decode cL_law 2152 = .ok (.aload_n 0, 1) := by decide +kernel
set_option maxRecDepth 20000 in
theorem dL_law_2153 : decode cL_law 2153 = .ok (.iload 5, 2) := by decide +kernel
set_option maxRecDepth 20000 in
theorem dL_law_2155 : decode cL_law 2155 = .ok (.iconst 2, 1) := by decide +kernel
set_option maxRecDepth 20000 in
theorem dL_law_2156 : decode cL_law 2156 = .ok (.iadd, 1) := by decide +kernel
set_option maxRecDepth 20000 in
theorem dL_law_2157 : decode cL_law 2157 = .ok (.iaload, 1) := by decide +kernel
set_option maxRecDepth 20000 in
theorem dL_law_2158 : decode cL_law 2158 = .ok (.aload_n 3, 1) := by decide +kernel
set_option maxRecDepth 20000 in
theorem dL_law_2159 : decode cL_law 2159 = .ok (.invokestatic 274, 3) := by decide +kernel
set_option maxRecDepth 20000 in
theorem dL_law_2162 : decode cL_law 2162 = .ok (.istore 6, 2) := by decide +kernel
set_option maxRecDepth 20000 in
theorem dL_law_2164 : decode cL_law 2164 = .ok (.aload_n 2, 1) := by decide +kernel
set_option maxRecDepth 20000 in
theorem dL_law_2165 : decode cL_law 2165 = .ok (.aload_n 0, 1) := by decide +kernel
set_option maxRecDepth 20000 in
theorem dL_law_2166 : decode cL_law 2166 = .ok (.iload 5, 2) := by decide +kernel
set_option maxRecDepth 20000 in
theorem dL_law_2168 : decode cL_law 2168 = .ok (.iconst 1, 1) := by decide +kernel
set_option maxRecDepth 20000 in
theorem dL_law_2169 : decode cL_law 2169 = .ok (.iadd, 1) := by decide +kernel
set_option maxRecDepth 20000 in
theorem dL_law_2170 : decode cL_law 2170 = .ok (.iaload, 1) := by decide +kernel
set_option maxRecDepth 20000 in
theorem dL_law_2171 : decode cL_law 2171 = .ok (.aload_n 0, 1) := by decide +kernel
set_option maxRecDepth 20000 in
theorem dL_law_2172 : decode cL_law 2172 = .ok (.iload 5, 2) := by decide +kernel
set_option maxRecDepth 20000 in
theorem dL_law_2174 : decode cL_law 2174 = .ok (.iconst 2, 1) := by decide +kernel
set_option maxRecDepth 20000 in
theorem dL_law_2175 : decode cL_law 2175 = .ok (.iadd, 1) := by decide +kernel
set_option maxRecDepth 20000 in
theorem dL_law_2176 : decode cL_law 2176 = .ok (.iaload, 1) := by decide +kernel
set_option maxRecDepth 20000 in
theorem dL_law_2177 : decode cL_law 2177 = .ok (.invokevirtual 276, 3) := by decide +kernel
