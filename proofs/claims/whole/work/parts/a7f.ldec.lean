/-! decode rows of the law -/
theorem dL_law_1846 : decode code 1846 = .ok (.iadd, 1) := by decide +kernel
theorem dL_law_1847 : decode code 1847 = .ok (.iaload, 1) := by decide +kernel
theorem dL_law_1848 : decode code 1848 = .ok (.aload_n 0, 1) := by decide +kernel
theorem dL_law_1849 : decode code 1849 = .ok (.iload 4, 2) := by decide +kernel
theorem dL_law_1851 : decode code 1851 = .ok (.iconst 4, 1) := by decide +kernel
theorem dL_law_1852 : decode code 1852 = .ok (.iadd, 1) := by decide +kernel
theorem dL_law_1853 : decode code 1853 = .ok (.iaload, 1) := by decide +kernel
theorem dL_law_1854 : decode code 1854 = .ok (.invokevirtual 177, 3) := by decide +kernel
theorem dL_law_1857 : decode code 1857 = .ok (.if_icmp .eq 938, 3) := by decide +kernel
theorem dL_law_1860 : decode code 1860 = .ok (.iconst 0, 1) := by decide +kernel
theorem dL_law_1861 : decode code 1861 = .ok (.ireturn, 1) := by decide +kernel
theorem dL_law_1862 : decode code 1862 = .ok (.aload_n 1, 1) := by decide +kernel
theorem dL_law_1863 : decode code 1863 = .ok (.aload_n 0, 1) := by decide +kernel
theorem dL_law_1864 : decode code 1864 = .ok (.iload 4, 2) := by decide +kernel
theorem dL_law_1866 : decode code 1866 = .ok (.iconst 1, 1) := by decide +kernel
theorem dL_law_1867 : decode code 1867 = .ok (.iadd, 1) := by decide +kernel
theorem dL_law_1868 : decode code 1868 = .ok (.iaload, 1) := by decide +kernel
theorem dL_law_1869 : decode code 1869 = .ok (.aload_n 0, 1) := by decide +kernel
theorem dL_law_1870 : decode code 1870 = .ok (.iload 4, 2) := by decide +kernel
theorem dL_law_1872 : decode code 1872 = .ok (.iconst 2, 1) := by decide +kernel
theorem dL_law_1873 : decode code 1873 = .ok (.iadd, 1) := by decide +kernel
theorem dL_law_1874 : decode code 1874 = .ok (.iaload, 1) := by decide +kernel
theorem dL_law_1875 : decode code 1875 = .ok (.aload_n 0, 1) := by decide +kernel
theorem dL_law_1876 : decode code 1876 = .ok (.iload 4, 2) := by decide +kernel
theorem dL_law_1878 : decode code 1878 = .ok (.iconst 3, 1) := by decide +kernel
theorem dL_law_1879 : decode code 1879 = .ok (.iadd, 1) := by decide +kernel
theorem dL_law_1880 : decode code 1880 = .ok (.iaload, 1) := by decide +kernel
theorem dL_law_1881 : decode code 1881 = .ok (.invokevirtual 178, 3) := by decide +kernel
theorem dL_law_1884 : decode code 1884 = .ok (.aload_n 2, 1) := by decide +kernel
theorem dL_law_1885 : decode code 1885 = .ok (.aload_n 0, 1) := by decide +kernel
theorem dL_law_1886 : decode code 1886 = .ok (.iload 4, 2) := by decide +kernel
theorem dL_law_1888 : decode code 1888 = .ok (.iconst 1, 1) := by decide +kernel
theorem dL_law_1889 : decode code 1889 = .ok (.iadd, 1) := by decide +kernel
theorem dL_law_1890 : decode code 1890 = .ok (.iaload, 1) := by decide +kernel
theorem dL_law_1891 : decode code 1891 = .ok (.aload_n 0, 1) := by decide +kernel
theorem dL_law_1892 : decode code 1892 = .ok (.iload 4, 2) := by decide +kernel
theorem dL_law_1894 : decode code 1894 = .ok (.iconst 2, 1) := by decide +kernel
theorem dL_law_1895 : decode code 1895 = .ok (.iadd, 1) := by decide +kernel
theorem dL_law_1896 : decode code 1896 = .ok (.iaload, 1) := by decide +kernel
theorem dL_law_1897 : decode code 1897 = .ok (.aload_n 0, 1) := by decide +kernel
theorem dL_law_1898 : decode code 1898 = .ok (.iload 4, 2) := by decide +kernel
theorem dL_law_1900 : decode code 1900 = .ok (.iconst 3, 1) := by decide +kernel
theorem dL_law_1901 : decode code 1901 = .ok (.iadd, 1) := by decide +kernel
theorem dL_law_1902 : decode code 1902 = .ok (.iaload, 1) := by decide +kernel
theorem dL_law_1903 : decode code 1903 = .ok (.invokevirtual 181, 3) := by decide +kernel
theorem dL_law_1906 : decode code 1906 = .ok (.lcmp, 1) := by decide +kernel
theorem dL_law_1907 : decode code 1907 = .ok (.ifCond .eq 888, 3) := by decide +kernel
theorem dL_law_1910 : decode code 1910 = .ok (.iconst 0, 1) := by decide +kernel
theorem dL_law_1911 : decode code 1911 = .ok (.ireturn, 1) := by decide +kernel
theorem dL_law_1912 : decode code 1912 = .ok (.aload_n 1, 1) := by decide +kernel
theorem dL_law_1913 : decode code 1913 = .ok (.aload_n 0, 1) := by decide +kernel
theorem dL_law_1914 : decode code 1914 = .ok (.iload 4, 2) := by decide +kernel
theorem dL_law_1916 : decode code 1916 = .ok (.iconst 1, 1) := by decide +kernel
theorem dL_law_1917 : decode code 1917 = .ok (.iadd, 1) := by decide +kernel
theorem dL_law_1918 : decode code 1918 = .ok (.iaload, 1) := by decide +kernel
theorem dL_law_1919 : decode code 1919 = .ok (.aload_n 0, 1) := by decide +kernel
theorem dL_law_1920 : decode code 1920 = .ok (.iload 4, 2) := by decide +kernel
theorem dL_law_1922 : decode code 1922 = .ok (.iconst 2, 1) := by decide +kernel
theorem dL_law_1923 : decode code 1923 = .ok (.iadd, 1) := by decide +kernel
theorem dL_law_1924 : decode code 1924 = .ok (.iaload, 1) := by decide +kernel
theorem dL_law_1925 : decode code 1925 = .ok (.aload_n 0, 1) := by decide +kernel
theorem dL_law_1926 : decode code 1926 = .ok (.iload 4, 2) := by decide +kernel
theorem dL_law_1928 : decode code 1928 = .ok (.iconst 3, 1) := by decide +kernel
theorem dL_law_1929 : decode code 1929 = .ok (.iadd, 1) := by decide +kernel
theorem dL_law_1930 : decode code 1930 = .ok (.iaload, 1) := by decide +kernel
theorem dL_law_1931 : decode code 1931 = .ok (.aload_n 0, 1) := by decide +kernel
theorem dL_law_1932 : decode code 1932 = .ok (.iload 4, 2) := by decide +kernel
theorem dL_law_1934 : decode code 1934 = .ok (.iconst 4, 1) := by decide +kernel
theorem dL_law_1935 : decode code 1935 = .ok (.iadd, 1) := by decide +kernel
theorem dL_law_1936 : decode code 1936 = .ok (.iaload, 1) := by decide +kernel
theorem dL_law_1937 : decode code 1937 = .ok (.invokevirtual 182, 3) := by decide +kernel
theorem dL_law_1940 : decode code 1940 = .ok (.aload_n 2, 1) := by decide +kernel
theorem dL_law_1941 : decode code 1941 = .ok (.aload_n 0, 1) := by decide +kernel
theorem dL_law_1942 : decode code 1942 = .ok (.iload 4, 2) := by decide +kernel
theorem dL_law_1944 : decode code 1944 = .ok (.iconst 1, 1) := by decide +kernel
theorem dL_law_1945 : decode code 1945 = .ok (.iadd, 1) := by decide +kernel
theorem dL_law_1946 : decode code 1946 = .ok (.iaload, 1) := by decide +kernel
theorem dL_law_1947 : decode code 1947 = .ok (.aload_n 0, 1) := by decide +kernel
theorem dL_law_1948 : decode code 1948 = .ok (.iload 4, 2) := by decide +kernel
theorem dL_law_1950 : decode code 1950 = .ok (.iconst 2, 1) := by decide +kernel
theorem dL_law_1951 : decode code 1951 = .ok (.iadd, 1) := by decide +kernel
theorem dL_law_1952 : decode code 1952 = .ok (.iaload, 1) := by decide +kernel
theorem dL_law_1953 : decode code 1953 = .ok (.aload_n 0, 1) := by decide +kernel
theorem dL_law_1954 : decode code 1954 = .ok (.iload 4, 2) := by decide +kernel
theorem dL_law_1956 : decode code 1956 = .ok (.iconst 3, 1) := by decide +kernel
theorem dL_law_1957 : decode code 1957 = .ok (.iadd, 1) := by decide +kernel
theorem dL_law_1958 : decode code 1958 = .ok (.iaload, 1) := by decide +kernel
theorem dL_law_1959 : decode code 1959 = .ok (.aload_n 0, 1) := by decide +kernel
theorem dL_law_1960 : decode code 1960 = .ok (.iload 4, 2) := by decide +kernel
theorem dL_law_1962 : decode code 1962 = .ok (.iconst 4, 1) := by decide +kernel
theorem dL_law_1963 : decode code 1963 = .ok (.iadd, 1) := by decide +kernel
theorem dL_law_1964 : decode code 1964 = .ok (.iaload, 1) := by decide +kernel
theorem dL_law_1965 : decode code 1965 = .ok (.invokevirtual 185, 3) := by decide +kernel
theorem dL_law_1968 : decode code 1968 = .ok (.if_icmp .eq 827, 3) := by decide +kernel
theorem dL_law_1971 : decode code 1971 = .ok (.iconst 0, 1) := by decide +kernel
theorem dL_law_1972 : decode code 1972 = .ok (.ireturn, 1) := by decide +kernel
theorem dL_law_1973 : decode code 1973 = .ok (.aload_n 1, 1) := by decide +kernel
theorem dL_law_1974 : decode code 1974 = .ok (.aload_n 0, 1) := by decide +kernel
theorem dL_law_1975 : decode code 1975 = .ok (.iload 4, 2) := by decide +kernel
theorem dL_law_1977 : decode code 1977 = .ok (.iconst 1, 1) := by decide +kernel
theorem dL_law_1978 : decode code 1978 = .ok (.iadd, 1) := by decide +kernel
theorem dL_law_1979 : decode code 1979 = .ok (.iaload, 1) := by decide +kernel
theorem dL_law_1980 : decode code 1980 = .ok (.aload_n 0, 1) := by decide +kernel
theorem dL_law_1981 : decode code 1981 = .ok (.iload 4, 2) := by decide +kernel
theorem dL_law_1983 : decode code 1983 = .ok (.iconst 2, 1) := by decide +kernel
theorem dL_law_1984 : decode code 1984 = .ok (.iadd, 1) := by decide +kernel
theorem dL_law_1985 : decode code 1985 = .ok (.iaload, 1) := by decide +kernel
theorem dL_law_1986 : decode code 1986 = .ok (.aload_n 0, 1) := by decide +kernel
theorem dL_law_1987 : decode code 1987 = .ok (.iload 4, 2) := by decide +kernel
theorem dL_law_1989 : decode code 1989 = .ok (.iconst 3, 1) := by decide +kernel
theorem dL_law_1990 : decode code 1990 = .ok (.iadd, 1) := by decide +kernel
theorem dL_law_1991 : decode code 1991 = .ok (.iaload, 1) := by decide +kernel
theorem dL_law_1992 : decode code 1992 = .ok (.aload_n 0, 1) := by decide +kernel
theorem dL_law_1993 : decode code 1993 = .ok (.iload 4, 2) := by decide +kernel
theorem dL_law_1995 : decode code 1995 = .ok (.iconst 4, 1) := by decide +kernel
theorem dL_law_1996 : decode code 1996 = .ok (.iadd, 1) := by decide +kernel
theorem dL_law_1997 : decode code 1997 = .ok (.iaload, 1) := by decide +kernel
theorem dL_law_1998 : decode code 1998 = .ok (.invokevirtual 186, 3) := by decide +kernel
theorem dL_law_2001 : decode code 2001 = .ok (.aload_n 2, 1) := by decide +kernel
theorem dL_law_2002 : decode code 2002 = .ok (.aload_n 0, 1) := by decide +kernel
theorem dL_law_2003 : decode code 2003 = .ok (.iload 4, 2) := by decide +kernel
theorem dL_law_2005 : decode code 2005 = .ok (.iconst 1, 1) := by decide +kernel
theorem dL_law_2006 : decode code 2006 = .ok (.iadd, 1) := by decide +kernel
theorem dL_law_2007 : decode code 2007 = .ok (.iaload, 1) := by decide +kernel
theorem dL_law_2008 : decode code 2008 = .ok (.aload_n 0, 1) := by decide +kernel
theorem dL_law_2009 : decode code 2009 = .ok (.iload 4, 2) := by decide +kernel
theorem dL_law_2011 : decode code 2011 = .ok (.iconst 2, 1) := by decide +kernel
theorem dL_law_2012 : decode code 2012 = .ok (.iadd, 1) := by decide +kernel
theorem dL_law_2013 : decode code 2013 = .ok (.iaload, 1) := by decide +kernel
theorem dL_law_2014 : decode code 2014 = .ok (.aload_n 0, 1) := by decide +kernel
theorem dL_law_2015 : decode code 2015 = .ok (.iload 4, 2) := by decide +kernel
theorem dL_law_2017 : decode code 2017 = .ok (.iconst 3, 1) := by decide +kernel
theorem dL_law_2018 : decode code 2018 = .ok (.iadd, 1) := by decide +kernel
theorem dL_law_2019 : decode code 2019 = .ok (.iaload, 1) := by decide +kernel
theorem dL_law_2020 : decode code 2020 = .ok (.aload_n 0, 1) := by decide +kernel
theorem dL_law_2021 : decode code 2021 = .ok (.iload 4, 2) := by decide +kernel
theorem dL_law_2023 : decode code 2023 = .ok (.iconst 4, 1) := by decide +kernel
theorem dL_law_2024 : decode code 2024 = .ok (.iadd, 1) := by decide +kernel
theorem dL_law_2025 : decode code 2025 = .ok (.iaload, 1) := by decide +kernel
theorem dL_law_2026 : decode code 2026 = .ok (.invokevirtual 189, 3) := by decide +kernel
theorem dL_law_2029 : decode code 2029 = .ok (.if_icmp .eq 766, 3) := by decide +kernel
theorem dL_law_2032 : decode code 2032 = .ok (.iconst 0, 1) := by decide +kernel
theorem dL_law_2033 : decode code 2033 = .ok (.ireturn, 1) := by decide +kernel
theorem dL_law_2034 : decode code 2034 = .ok (.aload_n 1, 1) := by decide +kernel
theorem dL_law_2035 : decode code 2035 = .ok (.aload_n 0, 1) := by decide +kernel
theorem dL_law_2036 : decode code 2036 = .ok (.iload 4, 2) := by decide +kernel
theorem dL_law_2038 : decode code 2038 = .ok (.iconst 1, 1) := by decide +kernel
theorem dL_law_2039 : decode code 2039 = .ok (.iadd, 1) := by decide +kernel
theorem dL_law_2040 : decode code 2040 = .ok (.iaload, 1) := by decide +kernel
theorem dL_law_2041 : decode code 2041 = .ok (.aload_n 0, 1) := by decide +kernel
theorem dL_law_2042 : decode code 2042 = .ok (.iload 4, 2) := by decide +kernel
theorem dL_law_2044 : decode code 2044 = .ok (.iconst 2, 1) := by decide +kernel
theorem dL_law_2045 : decode code 2045 = .ok (.iadd, 1) := by decide +kernel
theorem dL_law_2046 : decode code 2046 = .ok (.iaload, 1) := by decide +kernel
theorem dL_law_2047 : decode code 2047 = .ok (.aload_n 0, 1) := by decide +kernel
theorem dL_law_2048 : decode code 2048 = .ok (.iload 4, 2) := by decide +kernel
theorem dL_law_2050 : decode code 2050 = .ok (.iconst 3, 1) := by decide +kernel
theorem dL_law_2051 : decode code 2051 = .ok (.iadd, 1) := by decide +kernel
theorem dL_law_2052 : decode code 2052 = .ok (.iaload, 1) := by decide +kernel
theorem dL_law_2053 : decode code 2053 = .ok (.aload_n 0, 1) := by decide +kernel
theorem dL_law_2054 : decode code 2054 = .ok (.iload 4, 2) := by decide +kernel
theorem dL_law_2056 : decode code 2056 = .ok (.iconst 4, 1) := by decide +kernel
theorem dL_law_2057 : decode code 2057 = .ok (.iadd, 1) := by decide +kernel
theorem dL_law_2058 : decode code 2058 = .ok (.iaload, 1) := by decide +kernel
theorem dL_law_2059 : decode code 2059 = .ok (.aload_n 0, 1) := by decide +kernel
theorem dL_law_2060 : decode code 2060 = .ok (.iload 4, 2) := by decide +kernel
theorem dL_law_2062 : decode code 2062 = .ok (.iconst 5, 1) := by decide +kernel
theorem dL_law_2063 : decode code 2063 = .ok (.iadd, 1) := by decide +kernel
theorem dL_law_2064 : decode code 2064 = .ok (.iaload, 1) := by decide +kernel
theorem dL_law_2065 : decode code 2065 = .ok (.invokevirtual 190, 3) := by decide +kernel
theorem dL_law_2068 : decode code 2068 = .ok (.aload_n 2, 1) := by decide +kernel
theorem dL_law_2069 : decode code 2069 = .ok (.aload_n 0, 1) := by decide +kernel
theorem dL_law_2070 : decode code 2070 = .ok (.iload 4, 2) := by decide +kernel
theorem dL_law_2072 : decode code 2072 = .ok (.iconst 1, 1) := by decide +kernel
theorem dL_law_2073 : decode code 2073 = .ok (.iadd, 1) := by decide +kernel
theorem dL_law_2074 : decode code 2074 = .ok (.iaload, 1) := by decide +kernel
theorem dL_law_2075 : decode code 2075 = .ok (.aload_n 0, 1) := by decide +kernel
theorem dL_law_2076 : decode code 2076 = .ok (.iload 4, 2) := by decide +kernel
theorem dL_law_2078 : decode code 2078 = .ok (.iconst 2, 1) := by decide +kernel
theorem dL_law_2079 : decode code 2079 = .ok (.iadd, 1) := by decide +kernel
theorem dL_law_2080 : decode code 2080 = .ok (.iaload, 1) := by decide +kernel
theorem dL_law_2081 : decode code 2081 = .ok (.aload_n 0, 1) := by decide +kernel
theorem dL_law_2082 : decode code 2082 = .ok (.iload 4, 2) := by decide +kernel
theorem dL_law_2084 : decode code 2084 = .ok (.iconst 3, 1) := by decide +kernel
theorem dL_law_2085 : decode code 2085 = .ok (.iadd, 1) := by decide +kernel
theorem dL_law_2086 : decode code 2086 = .ok (.iaload, 1) := by decide +kernel
theorem dL_law_2087 : decode code 2087 = .ok (.aload_n 0, 1) := by decide +kernel
theorem dL_law_2088 : decode code 2088 = .ok (.iload 4, 2) := by decide +kernel
theorem dL_law_2090 : decode code 2090 = .ok (.iconst 4, 1) := by decide +kernel
theorem dL_law_2091 : decode code 2091 = .ok (.iadd, 1) := by decide +kernel
theorem dL_law_2092 : decode code 2092 = .ok (.iaload, 1) := by decide +kernel
theorem dL_law_2093 : decode code 2093 = .ok (.aload_n 0, 1) := by decide +kernel
theorem dL_law_2094 : decode code 2094 = .ok (.iload 4, 2) := by decide +kernel
theorem dL_law_2096 : decode code 2096 = .ok (.iconst 5, 1) := by decide +kernel
theorem dL_law_2097 : decode code 2097 = .ok (.iadd, 1) := by decide +kernel
theorem dL_law_2098 : decode code 2098 = .ok (.iaload, 1) := by decide +kernel
theorem dL_law_2099 : decode code 2099 = .ok (.invokevirtual 193, 3) := by decide +kernel
theorem dL_law_2102 : decode code 2102 = .ok (.if_icmp .eq 693, 3) := by decide +kernel
theorem dL_law_2105 : decode code 2105 = .ok (.iconst 0, 1) := by decide +kernel
theorem dL_law_2106 : decode code 2106 = .ok (.ireturn, 1) := by decide +kernel
theorem dL_law_2107 : decode code 2107 = .ok (.aload_n 1, 1) := by decide +kernel
theorem dL_law_2108 : decode code 2108 = .ok (.aload_n 0, 1) := by decide +kernel
theorem dL_law_2109 : decode code 2109 = .ok (.iload 4, 2) := by decide +kernel
theorem dL_law_2111 : decode code 2111 = .ok (.iconst 1, 1) := by decide +kernel
theorem dL_law_2112 : decode code 2112 = .ok (.iadd, 1) := by decide +kernel
theorem dL_law_2113 : decode code 2113 = .ok (.iaload, 1) := by decide +kernel
theorem dL_law_2114 : decode code 2114 = .ok (.aload_n 0, 1) := by decide +kernel
theorem dL_law_2115 : decode code 2115 = .ok (.iload 4, 2) := by decide +kernel
theorem dL_law_2117 : decode code 2117 = .ok (.iconst 2, 1) := by decide +kernel
theorem dL_law_2118 : decode code 2118 = .ok (.iadd, 1) := by decide +kernel
theorem dL_law_2119 : decode code 2119 = .ok (.iaload, 1) := by decide +kernel
theorem dL_law_2120 : decode code 2120 = .ok (.aload_n 0, 1) := by decide +kernel
theorem dL_law_2121 : decode code 2121 = .ok (.iload 4, 2) := by decide +kernel
theorem dL_law_2123 : decode code 2123 = .ok (.iconst 3, 1) := by decide +kernel
theorem dL_law_2124 : decode code 2124 = .ok (.iadd, 1) := by decide +kernel
theorem dL_law_2125 : decode code 2125 = .ok (.iaload, 1) := by decide +kernel
theorem dL_law_2126 : decode code 2126 = .ok (.aload_n 0, 1) := by decide +kernel
theorem dL_law_2127 : decode code 2127 = .ok (.iload 4, 2) := by decide +kernel
theorem dL_law_2129 : decode code 2129 = .ok (.iconst 4, 1) := by decide +kernel
theorem dL_law_2130 : decode code 2130 = .ok (.iadd, 1) := by decide +kernel
theorem dL_law_2131 : decode code 2131 = .ok (.iaload, 1) := by decide +kernel
theorem dL_law_2132 : decode code 2132 = .ok (.invokevirtual 194, 3) := by decide +kernel
theorem dL_law_2135 : decode code 2135 = .ok (.aload_n 2, 1) := by decide +kernel
theorem dL_law_2136 : decode code 2136 = .ok (.aload_n 0, 1) := by decide +kernel
theorem dL_law_2137 : decode code 2137 = .ok (.iload 4, 2) := by decide +kernel
theorem dL_law_2139 : decode code 2139 = .ok (.iconst 1, 1) := by decide +kernel
theorem dL_law_2140 : decode code 2140 = .ok (.iadd, 1) := by decide +kernel
theorem dL_law_2141 : decode code 2141 = .ok (.iaload, 1) := by decide +kernel
theorem dL_law_2142 : decode code 2142 = .ok (.aload_n 0, 1) := by decide +kernel
theorem dL_law_2143 : decode code 2143 = .ok (.iload 4, 2) := by decide +kernel
