theorem dL_law_1802 : decode cL_law 1802 = .ok (.iconst 2, 1) := by decide +kernel
theorem dL_law_1803 : decode cL_law 1803 = .ok (.iadd, 1) := by decide +kernel
theorem dL_law_1804 : decode cL_law 1804 = .ok (.iaload, 1) := by decide +kernel
theorem dL_law_1805 : decode cL_law 1805 = .ok (.aload_n 0, 1) := by decide +kernel
theorem dL_law_1806 : decode cL_law 1806 = .ok (.iload_n 3, 1) := by decide +kernel
theorem dL_law_1807 : decode cL_law 1807 = .ok (.iconst 3, 1) := by decide +kernel
theorem dL_law_1808 : decode cL_law 1808 = .ok (.iadd, 1) := by decide +kernel
theorem dL_law_1809 : decode cL_law 1809 = .ok (.iaload, 1) := by decide +kernel
theorem dL_law_1810 : decode cL_law 1810 = .ok (.invokevirtual 267, 3) := by decide +kernel
theorem dL_law_1813 : decode cL_law 1813 = .ok (.aload_n 2, 1) := by decide +kernel
theorem dL_law_1814 : decode cL_law 1814 = .ok (.aload_n 0, 1) := by decide +kernel
theorem dL_law_1815 : decode cL_law 1815 = .ok (.iload_n 3, 1) := by decide +kernel
theorem dL_law_1816 : decode cL_law 1816 = .ok (.iconst 1, 1) := by decide +kernel
theorem dL_law_1817 : decode cL_law 1817 = .ok (.iadd, 1) := by decide +kernel
theorem dL_law_1818 : decode cL_law 1818 = .ok (.iaload, 1) := by decide +kernel
theorem dL_law_1819 : decode cL_law 1819 = .ok (.aload_n 0, 1) := by decide +kernel
theorem dL_law_1820 : decode cL_law 1820 = .ok (.iload_n 3, 1) := by decide +kernel
theorem dL_law_1821 : decode cL_law 1821 = .ok (.iconst 2, 1) := by decide +kernel
theorem dL_law_1822 : decode cL_law 1822 = .ok (.iadd, 1) := by decide +kernel
theorem dL_law_1823 : decode cL_law 1823 = .ok (.iaload, 1) := by decide +kernel
theorem dL_law_1824 : decode cL_law 1824 = .ok (.aload_n 0, 1) := by decide +kernel
theorem dL_law_1825 : decode cL_law 1825 = .ok (.iload_n 3, 1) := by decide +kernel
theorem dL_law_1826 : decode cL_law 1826 = .ok (.iconst 3, 1) := by decide +kernel
theorem dL_law_1827 : decode cL_law 1827 = .ok (.iadd, 1) := by decide +kernel
theorem dL_law_1828 : decode cL_law 1828 = .ok (.iaload, 1) := by decide +kernel
theorem dL_law_1829 : decode cL_law 1829 = .ok (.invokevirtual 270, 3) := by decide +kernel
theorem dL_law_1832 : decode cL_law 1832 = .ok (.if_icmp .eq 286, 3) := by decide +kernel
theorem dL_law_1837 : decode cL_law 1837 = .ok (.aload_n 1, 1) := by decide +kernel
theorem dL_law_1838 : decode cL_law 1838 = .ok (.aload_n 0, 1) := by decide +kernel
theorem dL_law_1839 : decode cL_law 1839 = .ok (.iload_n 3, 1) := by decide +kernel
theorem dL_law_1840 : decode cL_law 1840 = .ok (.iconst 1, 1) := by decide +kernel
theorem dL_law_1841 : decode cL_law 1841 = .ok (.iadd, 1) := by decide +kernel
theorem dL_law_1842 : decode cL_law 1842 = .ok (.iaload, 1) := by decide +kernel
theorem dL_law_1843 : decode cL_law 1843 = .ok (.aload_n 0, 1) := by decide +kernel
theorem dL_law_1844 : decode cL_law 1844 = .ok (.iload_n 3, 1) := by decide +kernel
theorem dL_law_1845 : decode cL_law 1845 = .ok (.iconst 2, 1) := by decide +kernel
theorem dL_law_1846 : decode cL_law 1846 = .ok (.iadd, 1) := by decide +kernel
theorem dL_law_1847 : decode cL_law 1847 = .ok (.iaload, 1) := by decide +kernel
theorem dL_law_1848 : decode cL_law 1848 = .ok (.invokevirtual 271, 3) := by decide +kernel
theorem dL_law_1851 : decode cL_law 1851 = .ok (.aload_n 2, 1) := by decide +kernel
theorem dL_law_1852 : decode cL_law 1852 = .ok (.aload_n 0, 1) := by decide +kernel
theorem dL_law_1853 : decode cL_law 1853 = .ok (.iload_n 3, 1) := by decide +kernel
theorem dL_law_1854 : decode cL_law 1854 = .ok (.iconst 1, 1) := by decide +kernel
theorem dL_law_1855 : decode cL_law 1855 = .ok (.iadd, 1) := by decide +kernel
theorem dL_law_1856 : decode cL_law 1856 = .ok (.iaload, 1) := by decide +kernel
theorem dL_law_1857 : decode cL_law 1857 = .ok (.aload_n 0, 1) := by decide +kernel
theorem dL_law_1858 : decode cL_law 1858 = .ok (.iload_n 3, 1) := by decide +kernel
theorem dL_law_1859 : decode cL_law 1859 = .ok (.iconst 2, 1) := by decide +kernel
theorem dL_law_1860 : decode cL_law 1860 = .ok (.iadd, 1) := by decide +kernel
theorem dL_law_1861 : decode cL_law 1861 = .ok (.iaload, 1) := by decide +kernel
theorem dL_law_1862 : decode cL_law 1862 = .ok (.invokevirtual 274, 3) := by decide +kernel
theorem dL_law_1865 : decode cL_law 1865 = .ok (.if_icmp .eq 253, 3) := by decide +kernel
theorem dL_law_1870 : decode cL_law 1870 = .ok (.aload_n 1, 1) := by decide +kernel
theorem dL_law_1871 : decode cL_law 1871 = .ok (.aload_n 0, 1) := by decide +kernel
theorem dL_law_1872 : decode cL_law 1872 = .ok (.iload_n 3, 1) := by decide +kernel
theorem dL_law_1873 : decode cL_law 1873 = .ok (.iconst 1, 1) := by decide +kernel
theorem dL_law_1874 : decode cL_law 1874 = .ok (.iadd, 1) := by decide +kernel
theorem dL_law_1875 : decode cL_law 1875 = .ok (.iaload, 1) := by decide +kernel
theorem dL_law_1876 : decode cL_law 1876 = .ok (.invokevirtual 275, 3) := by decide +kernel
theorem dL_law_1879 : decode cL_law 1879 = .ok (.aload_n 2, 1) := by decide +kernel
theorem dL_law_1880 : decode cL_law 1880 = .ok (.aload_n 0, 1) := by decide +kernel
theorem dL_law_1881 : decode cL_law 1881 = .ok (.iload_n 3, 1) := by decide +kernel
theorem dL_law_1882 : decode cL_law 1882 = .ok (.iconst 1, 1) := by decide +kernel
theorem dL_law_1883 : decode cL_law 1883 = .ok (.iadd, 1) := by decide +kernel
theorem dL_law_1884 : decode cL_law 1884 = .ok (.iaload, 1) := by decide +kernel
theorem dL_law_1885 : decode cL_law 1885 = .ok (.invokevirtual 278, 3) := by decide +kernel
theorem dL_law_1888 : decode cL_law 1888 = .ok (.if_icmp .eq 230, 3) := by decide +kernel
theorem dL_law_1893 : decode cL_law 1893 = .ok (.aload_n 1, 1) := by decide +kernel
theorem dL_law_1894 : decode cL_law 1894 = .ok (.aload_n 0, 1) := by decide +kernel
theorem dL_law_1895 : decode cL_law 1895 = .ok (.iload_n 3, 1) := by decide +kernel
theorem dL_law_1896 : decode cL_law 1896 = .ok (.iconst 1, 1) := by decide +kernel
theorem dL_law_1897 : decode cL_law 1897 = .ok (.iadd, 1) := by decide +kernel
theorem dL_law_1898 : decode cL_law 1898 = .ok (.iaload, 1) := by decide +kernel
theorem dL_law_1899 : decode cL_law 1899 = .ok (.invokevirtual 279, 3) := by decide +kernel
theorem dL_law_1902 : decode cL_law 1902 = .ok (.aload_n 2, 1) := by decide +kernel
theorem dL_law_1903 : decode cL_law 1903 = .ok (.aload_n 0, 1) := by decide +kernel
theorem dL_law_1904 : decode cL_law 1904 = .ok (.iload_n 3, 1) := by decide +kernel
theorem dL_law_1905 : decode cL_law 1905 = .ok (.iconst 1, 1) := by decide +kernel
theorem dL_law_1906 : decode cL_law 1906 = .ok (.iadd, 1) := by decide +kernel
theorem dL_law_1907 : decode cL_law 1907 = .ok (.iaload, 1) := by decide +kernel
theorem dL_law_1908 : decode cL_law 1908 = .ok (.invokevirtual 282, 3) := by decide +kernel
theorem dL_law_1911 : decode cL_law 1911 = .ok (.if_icmp .eq 207, 3) := by decide +kernel
theorem dL_law_1916 : decode cL_law 1916 = .ok (.aload_n 1, 1) := by decide +kernel
theorem dL_law_1917 : decode cL_law 1917 = .ok (.aload_n 0, 1) := by decide +kernel
theorem dL_law_1918 : decode cL_law 1918 = .ok (.iload_n 3, 1) := by decide +kernel
theorem dL_law_1919 : decode cL_law 1919 = .ok (.iconst 1, 1) := by decide +kernel
theorem dL_law_1920 : decode cL_law 1920 = .ok (.iadd, 1) := by decide +kernel
theorem dL_law_1921 : decode cL_law 1921 = .ok (.iaload, 1) := by decide +kernel
theorem dL_law_1922 : decode cL_law 1922 = .ok (.invokevirtual 283, 3) := by decide +kernel
theorem dL_law_1925 : decode cL_law 1925 = .ok (.aload_n 2, 1) := by decide +kernel
theorem dL_law_1926 : decode cL_law 1926 = .ok (.aload_n 0, 1) := by decide +kernel
theorem dL_law_1927 : decode cL_law 1927 = .ok (.iload_n 3, 1) := by decide +kernel
theorem dL_law_1928 : decode cL_law 1928 = .ok (.iconst 1, 1) := by decide +kernel
theorem dL_law_1929 : decode cL_law 1929 = .ok (.iadd, 1) := by decide +kernel
theorem dL_law_1930 : decode cL_law 1930 = .ok (.iaload, 1) := by decide +kernel
theorem dL_law_1931 : decode cL_law 1931 = .ok (.invokevirtual 286, 3) := by decide +kernel
theorem dL_law_1934 : decode cL_law 1934 = .ok (.if_icmp .eq 184, 3) := by decide +kernel
theorem dL_law_1939 : decode cL_law 1939 = .ok (.aload_n 1, 1) := by decide +kernel
theorem dL_law_1940 : decode cL_law 1940 = .ok (.aload_n 0, 1) := by decide +kernel
theorem dL_law_1941 : decode cL_law 1941 = .ok (.iload_n 3, 1) := by decide +kernel
theorem dL_law_1942 : decode cL_law 1942 = .ok (.iconst 1, 1) := by decide +kernel
theorem dL_law_1943 : decode cL_law 1943 = .ok (.iadd, 1) := by decide +kernel
theorem dL_law_1944 : decode cL_law 1944 = .ok (.iaload, 1) := by decide +kernel
theorem dL_law_1945 : decode cL_law 1945 = .ok (.aload_n 0, 1) := by decide +kernel
theorem dL_law_1946 : decode cL_law 1946 = .ok (.iload_n 3, 1) := by decide +kernel
theorem dL_law_1947 : decode cL_law 1947 = .ok (.iconst 2, 1) := by decide +kernel
theorem dL_law_1948 : decode cL_law 1948 = .ok (.iadd, 1) := by decide +kernel
theorem dL_law_1949 : decode cL_law 1949 = .ok (.iaload, 1) := by decide +kernel
theorem dL_law_1950 : decode cL_law 1950 = .ok (.aload_n 0, 1) := by decide +kernel
theorem dL_law_1951 : decode cL_law 1951 = .ok (.iload_n 3, 1) := by decide +kernel
theorem dL_law_1952 : decode cL_law 1952 = .ok (.iconst 3, 1) := by decide +kernel
theorem dL_law_1953 : decode cL_law 1953 = .ok (.iadd, 1) := by decide +kernel
theorem dL_law_1954 : decode cL_law 1954 = .ok (.iaload, 1) := by decide +kernel
theorem dL_law_1955 : decode cL_law 1955 = .ok (.invokevirtual 287, 3) := by decide +kernel
theorem dL_law_1958 : decode cL_law 1958 = .ok (.aload_n 2, 1) := by decide +kernel
theorem dL_law_1959 : decode cL_law 1959 = .ok (.aload_n 0, 1) := by decide +kernel
theorem dL_law_1960 : decode cL_law 1960 = .ok (.iload_n 3, 1) := by decide +kernel
theorem dL_law_1961 : decode cL_law 1961 = .ok (.iconst 1, 1) := by decide +kernel
theorem dL_law_1962 : decode cL_law 1962 = .ok (.iadd, 1) := by decide +kernel
theorem dL_law_1963 : decode cL_law 1963 = .ok (.iaload, 1) := by decide +kernel
theorem dL_law_1964 : decode cL_law 1964 = .ok (.aload_n 0, 1) := by decide +kernel
theorem dL_law_1965 : decode cL_law 1965 = .ok (.iload_n 3, 1) := by decide +kernel
theorem dL_law_1966 : decode cL_law 1966 = .ok (.iconst 2, 1) := by decide +kernel
theorem dL_law_1967 : decode cL_law 1967 = .ok (.iadd, 1) := by decide +kernel
theorem dL_law_1968 : decode cL_law 1968 = .ok (.iaload, 1) := by decide +kernel
theorem dL_law_1969 : decode cL_law 1969 = .ok (.aload_n 0, 1) := by decide +kernel
theorem dL_law_1970 : decode cL_law 1970 = .ok (.iload_n 3, 1) := by decide +kernel
theorem dL_law_1971 : decode cL_law 1971 = .ok (.iconst 3, 1) := by decide +kernel
theorem dL_law_1972 : decode cL_law 1972 = .ok (.iadd, 1) := by decide +kernel
theorem dL_law_1973 : decode cL_law 1973 = .ok (.iaload, 1) := by decide +kernel
theorem dL_law_1974 : decode cL_law 1974 = .ok (.invokevirtual 290, 3) := by decide +kernel
theorem dL_law_1977 : decode cL_law 1977 = .ok (.if_icmp .eq 141, 3) := by decide +kernel
theorem dL_law_1982 : decode cL_law 1982 = .ok (.aload_n 1, 1) := by decide +kernel
theorem dL_law_1983 : decode cL_law 1983 = .ok (.aload_n 0, 1) := by decide +kernel
theorem dL_law_1984 : decode cL_law 1984 = .ok (.iload_n 3, 1) := by decide +kernel
theorem dL_law_1985 : decode cL_law 1985 = .ok (.iconst 1, 1) := by decide +kernel
theorem dL_law_1986 : decode cL_law 1986 = .ok (.iadd, 1) := by decide +kernel
theorem dL_law_1987 : decode cL_law 1987 = .ok (.iaload, 1) := by decide +kernel
theorem dL_law_1988 : decode cL_law 1988 = .ok (.aload_n 0, 1) := by decide +kernel
theorem dL_law_1989 : decode cL_law 1989 = .ok (.iload_n 3, 1) := by decide +kernel
theorem dL_law_1990 : decode cL_law 1990 = .ok (.iconst 2, 1) := by decide +kernel
theorem dL_law_1991 : decode cL_law 1991 = .ok (.iadd, 1) := by decide +kernel
theorem dL_law_1992 : decode cL_law 1992 = .ok (.iaload, 1) := by decide +kernel
theorem dL_law_1993 : decode cL_law 1993 = .ok (.aload_n 0, 1) := by decide +kernel
theorem dL_law_1994 : decode cL_law 1994 = .ok (.iload_n 3, 1) := by decide +kernel
theorem dL_law_1995 : decode cL_law 1995 = .ok (.iconst 3, 1) := by decide +kernel
theorem dL_law_1996 : decode cL_law 1996 = .ok (.iadd, 1) := by decide +kernel
theorem dL_law_1997 : decode cL_law 1997 = .ok (.iaload, 1) := by decide +kernel
theorem dL_law_1998 : decode cL_law 1998 = .ok (.i2l, 1) := by decide +kernel
theorem dL_law_1999 : decode cL_law 1999 = .ok (.bipush 32, 2) := by decide +kernel
theorem dL_law_2001 : decode cL_law 2001 = .ok (.lshl, 1) := by decide +kernel
theorem dL_law_2002 : decode cL_law 2002 = .ok (.aload_n 0, 1) := by decide +kernel
theorem dL_law_2003 : decode cL_law 2003 = .ok (.iload_n 3, 1) := by decide +kernel
theorem dL_law_2004 : decode cL_law 2004 = .ok (.iconst 4, 1) := by decide +kernel
theorem dL_law_2005 : decode cL_law 2005 = .ok (.iadd, 1) := by decide +kernel
theorem dL_law_2006 : decode cL_law 2006 = .ok (.iaload, 1) := by decide +kernel
theorem dL_law_2007 : decode cL_law 2007 = .ok (.i2l, 1) := by decide +kernel
theorem dL_law_2008 : decode cL_law 2008 = .ok (.ldc2_w 291, 3) := by decide +kernel
theorem dL_law_2011 : decode cL_law 2011 = .ok (.land, 1) := by decide +kernel
theorem dL_law_2012 : decode cL_law 2012 = .ok (.lor, 1) := by decide +kernel
theorem dL_law_2013 : decode cL_law 2013 = .ok (.invokevirtual 293, 3) := by decide +kernel
theorem dL_law_2016 : decode cL_law 2016 = .ok (.aload_n 2, 1) := by decide +kernel
theorem dL_law_2017 : decode cL_law 2017 = .ok (.aload_n 0, 1) := by decide +kernel
theorem dL_law_2018 : decode cL_law 2018 = .ok (.iload_n 3, 1) := by decide +kernel
theorem dL_law_2019 : decode cL_law 2019 = .ok (.iconst 1, 1) := by decide +kernel
theorem dL_law_2020 : decode cL_law 2020 = .ok (.iadd, 1) := by decide +kernel
theorem dL_law_2021 : decode cL_law 2021 = .ok (.iaload, 1) := by decide +kernel
theorem dL_law_2022 : decode cL_law 2022 = .ok (.aload_n 0, 1) := by decide +kernel
theorem dL_law_2023 : decode cL_law 2023 = .ok (.iload_n 3, 1) := by decide +kernel
theorem dL_law_2024 : decode cL_law 2024 = .ok (.iconst 2, 1) := by decide +kernel
theorem dL_law_2025 : decode cL_law 2025 = .ok (.iadd, 1) := by decide +kernel
theorem dL_law_2026 : decode cL_law 2026 = .ok (.iaload, 1) := by decide +kernel
theorem dL_law_2027 : decode cL_law 2027 = .ok (.aload_n 0, 1) := by decide +kernel
theorem dL_law_2028 : decode cL_law 2028 = .ok (.iload_n 3, 1) := by decide +kernel
theorem dL_law_2029 : decode cL_law 2029 = .ok (.iconst 3, 1) := by decide +kernel
theorem dL_law_2030 : decode cL_law 2030 = .ok (.iadd, 1) := by decide +kernel
theorem dL_law_2031 : decode cL_law 2031 = .ok (.iaload, 1) := by decide +kernel
theorem dL_law_2032 : decode cL_law 2032 = .ok (.i2l, 1) := by decide +kernel
theorem dL_law_2033 : decode cL_law 2033 = .ok (.bipush 32, 2) := by decide +kernel
theorem dL_law_2035 : decode cL_law 2035 = .ok (.lshl, 1) := by decide +kernel
theorem dL_law_2036 : decode cL_law 2036 = .ok (.aload_n 0, 1) := by decide +kernel
theorem dL_law_2037 : decode cL_law 2037 = .ok (.iload_n 3, 1) := by decide +kernel
theorem dL_law_2038 : decode cL_law 2038 = .ok (.iconst 4, 1) := by decide +kernel
theorem dL_law_2039 : decode cL_law 2039 = .ok (.iadd, 1) := by decide +kernel
theorem dL_law_2040 : decode cL_law 2040 = .ok (.iaload, 1) := by decide +kernel
theorem dL_law_2041 : decode cL_law 2041 = .ok (.i2l, 1) := by decide +kernel
theorem dL_law_2042 : decode cL_law 2042 = .ok (.ldc2_w 291, 3) := by decide +kernel
theorem dL_law_2045 : decode cL_law 2045 = .ok (.land, 1) := by decide +kernel
theorem dL_law_2046 : decode cL_law 2046 = .ok (.lor, 1) := by decide +kernel
theorem dL_law_2047 : decode cL_law 2047 = .ok (.invokevirtual 297, 3) := by decide +kernel
theorem dL_law_2050 : decode cL_law 2050 = .ok (.if_icmp .eq 68, 3) := by decide +kernel
theorem dL_law_2055 : decode cL_law 2055 = .ok (.aload_n 1, 1) := by decide +kernel
theorem dL_law_2056 : decode cL_law 2056 = .ok (.aload_n 0, 1) := by decide +kernel
theorem dL_law_2057 : decode cL_law 2057 = .ok (.iload_n 3, 1) := by decide +kernel
theorem dL_law_2058 : decode cL_law 2058 = .ok (.iconst 1, 1) := by decide +kernel
theorem dL_law_2059 : decode cL_law 2059 = .ok (.iadd, 1) := by decide +kernel
theorem dL_law_2060 : decode cL_law 2060 = .ok (.iaload, 1) := by decide +kernel
theorem dL_law_2061 : decode cL_law 2061 = .ok (.aload_n 0, 1) := by decide +kernel
theorem dL_law_2062 : decode cL_law 2062 = .ok (.iload_n 3, 1) := by decide +kernel
theorem dL_law_2063 : decode cL_law 2063 = .ok (.iconst 2, 1) := by decide +kernel
theorem dL_law_2064 : decode cL_law 2064 = .ok (.iadd, 1) := by decide +kernel
theorem dL_law_2065 : decode cL_law 2065 = .ok (.iaload, 1) := by decide +kernel
theorem dL_law_2066 : decode cL_law 2066 = .ok (.aload_n 0, 1) := by decide +kernel
theorem dL_law_2067 : decode cL_law 2067 = .ok (.iload_n 3, 1) := by decide +kernel
theorem dL_law_2068 : decode cL_law 2068 = .ok (.iconst 3, 1) := by decide +kernel
theorem dL_law_2069 : decode cL_law 2069 = .ok (.iadd, 1) := by decide +kernel
theorem dL_law_2070 : decode cL_law 2070 = .ok (.iaload, 1) := by decide +kernel
theorem dL_law_2071 : decode cL_law 2071 = .ok (.aload_n 0, 1) := by decide +kernel
theorem dL_law_2072 : decode cL_law 2072 = .ok (.iload_n 3, 1) := by decide +kernel
theorem dL_law_2073 : decode cL_law 2073 = .ok (.iconst 4, 1) := by decide +kernel
theorem dL_law_2074 : decode cL_law 2074 = .ok (.iadd, 1) := by decide +kernel
theorem dL_law_2075 : decode cL_law 2075 = .ok (.iaload, 1) := by decide +kernel
theorem dL_law_2076 : decode cL_law 2076 = .ok (.aload_n 0, 1) := by decide +kernel
theorem dL_law_2077 : decode cL_law 2077 = .ok (.iload_n 3, 1) := by decide +kernel
theorem dL_law_2078 : decode cL_law 2078 = .ok (.iconst 5, 1) := by decide +kernel
theorem dL_law_2079 : decode cL_law 2079 = .ok (.iadd, 1) := by decide +kernel
theorem dL_law_2080 : decode cL_law 2080 = .ok (.iaload, 1) := by decide +kernel
theorem dL_law_2081 : decode cL_law 2081 = .ok (.invokevirtual 298, 3) := by decide +kernel
theorem dL_law_2084 : decode cL_law 2084 = .ok (.aload_n 2, 1) := by decide +kernel
theorem dL_law_2085 : decode cL_law 2085 = .ok (.aload_n 0, 1) := by decide +kernel
theorem dL_law_2086 : decode cL_law 2086 = .ok (.iload_n 3, 1) := by decide +kernel
theorem dL_law_2087 : decode cL_law 2087 = .ok (.iconst 1, 1) := by decide +kernel
theorem dL_law_2088 : decode cL_law 2088 = .ok (.iadd, 1) := by decide +kernel
theorem dL_law_2089 : decode cL_law 2089 = .ok (.iaload, 1) := by decide +kernel
theorem dL_law_2090 : decode cL_law 2090 = .ok (.aload_n 0, 1) := by decide +kernel
theorem dL_law_2091 : decode cL_law 2091 = .ok (.iload_n 3, 1) := by decide +kernel
theorem dL_law_2092 : decode cL_law 2092 = .ok (.iconst 2, 1) := by decide +kernel
theorem dL_law_2093 : decode cL_law 2093 = .ok (.iadd, 1) := by decide +kernel
theorem dL_law_2094 : decode cL_law 2094 = .ok (.iaload, 1) := by decide +kernel
theorem dL_law_2095 : decode cL_law 2095 = .ok (.aload_n 0, 1) := by decide +kernel
theorem dL_law_2096 : decode cL_law 2096 = .ok (.iload_n 3, 1) := by decide +kernel
theorem dL_law_2097 : decode cL_law 2097 = .ok (.iconst 3, 1) := by decide +kernel
theorem dL_law_2098 : decode cL_law 2098 = .ok (.iadd, 1) := by decide +kernel
theorem dL_law_2099 : decode cL_law 2099 = .ok (.iaload, 1) := by decide +kernel
theorem dL_law_2100 : decode cL_law 2100 = .ok (.aload_n 0, 1) := by decide +kernel
theorem dL_law_2101 : decode cL_law 2101 = .ok (.iload_n 3, 1) := by decide +kernel
theorem dL_law_2102 : decode cL_law 2102 = .ok (.iconst 4, 1) := by decide +kernel
theorem dL_law_2103 : decode cL_law 2103 = .ok (.iadd, 1) := by decide +kernel
theorem dL_law_2104 : decode cL_law 2104 = .ok (.iaload, 1) := by decide +kernel
theorem dL_law_2105 : decode cL_law 2105 = .ok (.aload_n 0, 1) := by decide +kernel
theorem dL_law_2106 : decode cL_law 2106 = .ok (.iload_n 3, 1) := by decide +kernel
theorem dL_law_2107 : decode cL_law 2107 = .ok (.iconst 5, 1) := by decide +kernel
theorem dL_law_2108 : decode cL_law 2108 = .ok (.iadd, 1) := by decide +kernel
theorem dL_law_2109 : decode cL_law 2109 = .ok (.iaload, 1) := by decide +kernel
theorem dL_law_2110 : decode cL_law 2110 = .ok (.invokevirtual 301, 3) := by decide +kernel
theorem dL_law_2113 : decode cL_law 2113 = .ok (.if_icmp .eq 5, 3) := by decide +kernel
theorem dL_law_2118 : decode cL_law 2118 = .ok (.iinc 3 6, 3) := by decide +kernel
theorem dL_law_2121 : decode cL_law 2121 = .ok (.goto (-2103), 3) := by decide +kernel
theorem dL_law_2124 : decode cL_law 2124 = .ok (.iconst 1, 1) := by decide +kernel
theorem dL_law_2125 : decode cL_law 2125 = .ok (.ireturn, 1) := by decide +kernel
