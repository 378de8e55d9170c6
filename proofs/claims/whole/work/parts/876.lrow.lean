/-! The law: its rows 6 (written by wip/whole/genlaw.py) -/
section
theorem d417_1857 : decode code 1857 = .ok (.istore 5, 2) := by decide +kernel
theorem d417_1859 : decode code 1859 = .ok (.aload_n 2, 1) := by decide +kernel
theorem d417_1860 : decode code 1860 = .ok (.aload_n 0, 1) := by decide +kernel
theorem d417_1861 : decode code 1861 = .ok (.iload 4, 2) := by decide +kernel
theorem d417_1863 : decode code 1863 = .ok (.iconst 1, 1) := by decide +kernel
theorem d417_1864 : decode code 1864 = .ok (.iadd, 1) := by decide +kernel
theorem d417_1865 : decode code 1865 = .ok (.iaload, 1) := by decide +kernel
theorem d417_1866 : decode code 1866 = .ok (.aload_n 0, 1) := by decide +kernel
theorem d417_1867 : decode code 1867 = .ok (.iload 4, 2) := by decide +kernel
theorem d417_1869 : decode code 1869 = .ok (.iconst 2, 1) := by decide +kernel
theorem d417_1870 : decode code 1870 = .ok (.iadd, 1) := by decide +kernel
theorem d417_1871 : decode code 1871 = .ok (.iaload, 1) := by decide +kernel
theorem d417_1872 : decode code 1872 = .ok (.invokevirtual 246, 3) := by decide +kernel
theorem d417_1875 : decode code 1875 = .ok (.istore 6, 2) := by decide +kernel
theorem d417_1877 : decode code 1877 = .ok (.aload_n 2, 1) := by decide +kernel
theorem d417_1878 : decode code 1878 = .ok (.invokevirtual 147, 3) := by decide +kernel
theorem d417_1881 : decode code 1881 = .ok (.iload 5, 2) := by decide +kernel
theorem d417_1883 : decode code 1883 = .ok (.if_icmp .eq 5, 3) := by decide +kernel
theorem d417_1886 : decode code 1886 = .ok (.iconst 0, 1) := by decide +kernel
theorem d417_1887 : decode code 1887 = .ok (.ireturn, 1) := by decide +kernel
theorem d417_1888 : decode code 1888 = .ok (.iload 5, 2) := by decide +kernel
theorem d417_1890 : decode code 1890 = .ok (.ifCond .ne 15, 3) := by decide +kernel
theorem d417_1893 : decode code 1893 = .ok (.aload_n 3, 1) := by decide +kernel
theorem d417_1894 : decode code 1894 = .ok (.iconst 0, 1) := by decide +kernel
theorem d417_1895 : decode code 1895 = .ok (.laload, 1) := by decide +kernel
theorem d417_1896 : decode code 1896 = .ok (.iload 6, 2) := by decide +kernel
theorem d417_1898 : decode code 1898 = .ok (.i2l, 1) := by decide +kernel
theorem d417_1899 : decode code 1899 = .ok (.lcmp, 1) := by decide +kernel
theorem d417_1900 : decode code 1900 = .ok (.ifCond .eq 5, 3) := by decide +kernel
theorem d417_1903 : decode code 1903 = .ok (.iconst 0, 1) := by decide +kernel
theorem d417_1904 : decode code 1904 = .ok (.ireturn, 1) := by decide +kernel
theorem d417_1905 : decode code 1905 = .ok (.goto 878, 3) := by decide +kernel
theorem d417_1908 : decode code 1908 = .ok (.aload_n 1, 1) := by decide +kernel
theorem d417_1909 : decode code 1909 = .ok (.aload_n 0, 1) := by decide +kernel
theorem d417_1910 : decode code 1910 = .ok (.iload 4, 2) := by decide +kernel
theorem d417_1912 : decode code 1912 = .ok (.iconst 1, 1) := by decide +kernel
theorem d417_1913 : decode code 1913 = .ok (.iadd, 1) := by decide +kernel
theorem d417_1914 : decode code 1914 = .ok (.iaload, 1) := by decide +kernel
theorem d417_1915 : decode code 1915 = .ok (.aload_n 3, 1) := by decide +kernel
theorem d417_1916 : decode code 1916 = .ok (.invokestatic 247, 3) := by decide +kernel
theorem d417_1919 : decode code 1919 = .ok (.istore 5, 2) := by decide +kernel
theorem d417_1921 : decode code 1921 = .ok (.aload_n 2, 1) := by decide +kernel
theorem d417_1922 : decode code 1922 = .ok (.aload_n 0, 1) := by decide +kernel
theorem d417_1923 : decode code 1923 = .ok (.iload 4, 2) := by decide +kernel
theorem d417_1925 : decode code 1925 = .ok (.iconst 1, 1) := by decide +kernel
theorem d417_1926 : decode code 1926 = .ok (.iadd, 1) := by decide +kernel
theorem d417_1927 : decode code 1927 = .ok (.iaload, 1) := by decide +kernel
theorem d417_1928 : decode code 1928 = .ok (.invokevirtual 249, 3) := by decide +kernel
theorem d417_1931 : decode code 1931 = .ok (.istore 6, 2) := by decide +kernel
theorem d417_1933 : decode code 1933 = .ok (.aload_n 2, 1) := by decide +kernel
theorem d417_1934 : decode code 1934 = .ok (.invokevirtual 147, 3) := by decide +kernel
theorem d417_1937 : decode code 1937 = .ok (.iload 5, 2) := by decide +kernel
theorem d417_1939 : decode code 1939 = .ok (.if_icmp .eq 5, 3) := by decide +kernel
theorem d417_1942 : decode code 1942 = .ok (.iconst 0, 1) := by decide +kernel
theorem d417_1943 : decode code 1943 = .ok (.ireturn, 1) := by decide +kernel
theorem d417_1944 : decode code 1944 = .ok (.iload 5, 2) := by decide +kernel
theorem d417_1946 : decode code 1946 = .ok (.ifCond .ne 15, 3) := by decide +kernel
theorem d417_1949 : decode code 1949 = .ok (.aload_n 3, 1) := by decide +kernel
theorem d417_1950 : decode code 1950 = .ok (.iconst 0, 1) := by decide +kernel
theorem d417_1951 : decode code 1951 = .ok (.laload, 1) := by decide +kernel
theorem d417_1952 : decode code 1952 = .ok (.iload 6, 2) := by decide +kernel
theorem d417_1954 : decode code 1954 = .ok (.i2l, 1) := by decide +kernel
theorem d417_1955 : decode code 1955 = .ok (.lcmp, 1) := by decide +kernel
theorem d417_1956 : decode code 1956 = .ok (.ifCond .eq 5, 3) := by decide +kernel
theorem d417_1959 : decode code 1959 = .ok (.iconst 0, 1) := by decide +kernel
theorem d417_1960 : decode code 1960 = .ok (.ireturn, 1) := by decide +kernel
theorem d417_1961 : decode code 1961 = .ok (.goto 822, 3) := by decide +kernel
theorem d417_1964 : decode code 1964 = .ok (.aload_n 1, 1) := by decide +kernel
theorem d417_1965 : decode code 1965 = .ok (.aload_n 0, 1) := by decide +kernel
theorem d417_1966 : decode code 1966 = .ok (.iload 4, 2) := by decide +kernel
theorem d417_1968 : decode code 1968 = .ok (.iconst 1, 1) := by decide +kernel
theorem d417_1969 : decode code 1969 = .ok (.iadd, 1) := by decide +kernel
theorem d417_1970 : decode code 1970 = .ok (.iaload, 1) := by decide +kernel
theorem d417_1971 : decode code 1971 = .ok (.aload_n 3, 1) := by decide +kernel
theorem d417_1972 : decode code 1972 = .ok (.invokestatic 250, 3) := by decide +kernel
theorem d417_1975 : decode code 1975 = .ok (.istore 5, 2) := by decide +kernel
theorem d417_1977 : decode code 1977 = .ok (.aload_n 2, 1) := by decide +kernel
theorem d417_1978 : decode code 1978 = .ok (.aload_n 0, 1) := by decide +kernel
theorem d417_1979 : decode code 1979 = .ok (.iload 4, 2) := by decide +kernel
theorem d417_1981 : decode code 1981 = .ok (.iconst 1, 1) := by decide +kernel
theorem d417_1982 : decode code 1982 = .ok (.iadd, 1) := by decide +kernel
theorem d417_1983 : decode code 1983 = .ok (.iaload, 1) := by decide +kernel
theorem d417_1984 : decode code 1984 = .ok (.invokevirtual 252, 3) := by decide +kernel
theorem d417_1987 : decode code 1987 = .ok (.istore 6, 2) := by decide +kernel
theorem d417_1989 : decode code 1989 = .ok (.aload_n 2, 1) := by decide +kernel
theorem d417_1990 : decode code 1990 = .ok (.invokevirtual 147, 3) := by decide +kernel
theorem d417_1993 : decode code 1993 = .ok (.iload 5, 2) := by decide +kernel
theorem d417_1995 : decode code 1995 = .ok (.if_icmp .eq 5, 3) := by decide +kernel
theorem d417_1998 : decode code 1998 = .ok (.iconst 0, 1) := by decide +kernel
theorem d417_1999 : decode code 1999 = .ok (.ireturn, 1) := by decide +kernel
theorem d417_2000 : decode code 2000 = .ok (.iload 5, 2) := by decide +kernel
theorem d417_2002 : decode code 2002 = .ok (.ifCond .ne 15, 3) := by decide +kernel
theorem d417_2005 : decode code 2005 = .ok (.aload_n 3, 1) := by decide +kernel
theorem d417_2006 : decode code 2006 = .ok (.iconst 0, 1) := by decide +kernel
theorem d417_2007 : decode code 2007 = .ok (.laload, 1) := by decide +kernel
theorem d417_2008 : decode code 2008 = .ok (.iload 6, 2) := by decide +kernel
theorem d417_2010 : decode code 2010 = .ok (.i2l, 1) := by decide +kernel
theorem d417_2011 : decode code 2011 = .ok (.lcmp, 1) := by decide +kernel
theorem d417_2012 : decode code 2012 = .ok (.ifCond .eq 5, 3) := by decide +kernel
theorem d417_2015 : decode code 2015 = .ok (.iconst 0, 1) := by decide +kernel
theorem d417_2016 : decode code 2016 = .ok (.ireturn, 1) := by decide +kernel
theorem d417_2017 : decode code 2017 = .ok (.goto 766, 3) := by decide +kernel
theorem d417_2020 : decode code 2020 = .ok (.aload_n 1, 1) := by decide +kernel
theorem d417_2021 : decode code 2021 = .ok (.aload_n 0, 1) := by decide +kernel
theorem d417_2022 : decode code 2022 = .ok (.iload 4, 2) := by decide +kernel
theorem d417_2024 : decode code 2024 = .ok (.iconst 1, 1) := by decide +kernel
theorem d417_2025 : decode code 2025 = .ok (.iadd, 1) := by decide +kernel
theorem d417_2026 : decode code 2026 = .ok (.iaload, 1) := by decide +kernel
theorem d417_2027 : decode code 2027 = .ok (.aload_n 0, 1) := by decide +kernel
theorem d417_2028 : decode code 2028 = .ok (.iload 4, 2) := by decide +kernel
theorem d417_2030 : decode code 2030 = .ok (.iconst 2, 1) := by decide +kernel
theorem d417_2031 : decode code 2031 = .ok (.iadd, 1) := by decide +kernel
theorem d417_2032 : decode code 2032 = .ok (.iaload, 1) := by decide +kernel
theorem d417_2033 : decode code 2033 = .ok (.aload_n 3, 1) := by decide +kernel
theorem d417_2034 : decode code 2034 = .ok (.invokestatic 253, 3) := by decide +kernel
theorem d417_2037 : decode code 2037 = .ok (.istore 5, 2) := by decide +kernel
theorem d417_2039 : decode code 2039 = .ok (.aload_n 2, 1) := by decide +kernel
theorem d417_2040 : decode code 2040 = .ok (.aload_n 0, 1) := by decide +kernel
theorem d417_2041 : decode code 2041 = .ok (.iload 4, 2) := by decide +kernel
theorem d417_2043 : decode code 2043 = .ok (.iconst 1, 1) := by decide +kernel
theorem d417_2044 : decode code 2044 = .ok (.iadd, 1) := by decide +kernel
theorem d417_2045 : decode code 2045 = .ok (.iaload, 1) := by decide +kernel
theorem d417_2046 : decode code 2046 = .ok (.aload_n 0, 1) := by decide +kernel
theorem d417_2047 : decode code 2047 = .ok (.iload 4, 2) := by decide +kernel
theorem d417_2049 : decode code 2049 = .ok (.iconst 2, 1) := by decide +kernel
theorem d417_2050 : decode code 2050 = .ok (.iadd, 1) := by decide +kernel
theorem d417_2051 : decode code 2051 = .ok (.iaload, 1) := by decide +kernel
theorem d417_2052 : decode code 2052 = .ok (.invokevirtual 255, 3) := by decide +kernel
theorem d417_2055 : decode code 2055 = .ok (.istore 6, 2) := by decide +kernel
theorem d417_2057 : decode code 2057 = .ok (.aload_n 2, 1) := by decide +kernel
theorem d417_2058 : decode code 2058 = .ok (.invokevirtual 147, 3) := by decide +kernel
theorem d417_2061 : decode code 2061 = .ok (.iload 5, 2) := by decide +kernel
theorem d417_2063 : decode code 2063 = .ok (.if_icmp .eq 5, 3) := by decide +kernel
theorem d417_2066 : decode code 2066 = .ok (.iconst 0, 1) := by decide +kernel
theorem d417_2067 : decode code 2067 = .ok (.ireturn, 1) := by decide +kernel
theorem d417_2068 : decode code 2068 = .ok (.iload 5, 2) := by decide +kernel
theorem d417_2070 : decode code 2070 = .ok (.ifCond .ne 22, 3) := by decide +kernel
theorem d417_2073 : decode code 2073 = .ok (.aload_n 3, 1) := by decide +kernel
theorem d417_2074 : decode code 2074 = .ok (.iconst 0, 1) := by decide +kernel
theorem d417_2075 : decode code 2075 = .ok (.laload, 1) := by decide +kernel
theorem d417_2076 : decode code 2076 = .ok (.iload 6, 2) := by decide +kernel
theorem d417_2078 : decode code 2078 = .ok (.ifCond .eq 7, 3) := by decide +kernel
theorem d417_2081 : decode code 2081 = .ok (.lconst 1, 1) := by decide +kernel
theorem d417_2082 : decode code 2082 = .ok (.goto 4, 3) := by decide +kernel
theorem d417_2085 : decode code 2085 = .ok (.lconst 0, 1) := by decide +kernel
theorem d417_2086 : decode code 2086 = .ok (.lcmp, 1) := by decide +kernel
theorem d417_2087 : decode code 2087 = .ok (.ifCond .eq 5, 3) := by decide +kernel
theorem d417_2090 : decode code 2090 = .ok (.iconst 0, 1) := by decide +kernel
theorem d417_2091 : decode code 2091 = .ok (.ireturn, 1) := by decide +kernel
theorem d417_2092 : decode code 2092 = .ok (.goto 691, 3) := by decide +kernel
theorem d417_2095 : decode code 2095 = .ok (.aload_n 1, 1) := by decide +kernel
theorem d417_2096 : decode code 2096 = .ok (.aload_n 0, 1) := by decide +kernel
theorem d417_2097 : decode code 2097 = .ok (.iload 4, 2) := by decide +kernel
theorem d417_2099 : decode code 2099 = .ok (.iconst 1, 1) := by decide +kernel
theorem d417_2100 : decode code 2100 = .ok (.iadd, 1) := by decide +kernel
theorem d417_2101 : decode code 2101 = .ok (.iaload, 1) := by decide +kernel
theorem d417_2102 : decode code 2102 = .ok (.aload_n 3, 1) := by decide +kernel
theorem d417_2103 : decode code 2103 = .ok (.invokestatic 256, 3) := by decide +kernel
theorem d417_2106 : decode code 2106 = .ok (.istore 5, 2) := by decide +kernel
theorem d417_2108 : decode code 2108 = .ok (.aload_n 2, 1) := by decide +kernel
theorem d417_2109 : decode code 2109 = .ok (.aload_n 0, 1) := by decide +kernel
theorem d417_2110 : decode code 2110 = .ok (.iload 4, 2) := by decide +kernel
theorem d417_2112 : decode code 2112 = .ok (.iconst 1, 1) := by decide +kernel
theorem d417_2113 : decode code 2113 = .ok (.iadd, 1) := by decide +kernel
theorem d417_2114 : decode code 2114 = .ok (.iaload, 1) := by decide +kernel
theorem d417_2115 : decode code 2115 = .ok (.invokevirtual 258, 3) := by decide +kernel
theorem d417_2118 : decode code 2118 = .ok (.istore 6, 2) := by decide +kernel
theorem d417_2120 : decode code 2120 = .ok (.aload_n 2, 1) := by decide +kernel
theorem d417_2121 : decode code 2121 = .ok (.invokevirtual 147, 3) := by decide +kernel
theorem d417_2124 : decode code 2124 = .ok (.iload 5, 2) := by decide +kernel
end
