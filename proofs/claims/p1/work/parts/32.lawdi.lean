theorem dL_law_1937 : decode cL_law 1937 = .ok (.iload 6, 2) := by decide +kernel
theorem dL_law_1939 : decode cL_law 1939 = .ok (.i2l, 1) := by decide +kernel
theorem dL_law_1940 : decode cL_law 1940 = .ok (.lcmp, 1) := by decide +kernel
theorem dL_law_1941 : decode cL_law 1941 = .ok (.ifCond .eq 5, 3) := by decide +kernel
theorem dL_law_1944 : decode cL_law 1944 = .ok (.iconst 0, 1) := by decide +kernel
theorem dL_law_1945 : decode cL_law 1945 = .ok (.ireturn, 1) := by decide +kernel
theorem dL_law_1946 : decode cL_law 1946 = .ok (.goto 511, 3) := by decide +kernel
theorem dL_law_1949 : decode cL_law 1949 = .ok (.aload_n 1, 1) := by decide +kernel
theorem dL_law_1950 : decode cL_law 1950 = .ok (.aload_n 0, 1) := by decide +kernel
theorem dL_law_1951 : decode cL_law 1951 = .ok (.iload 4, 2) := by decide +kernel
theorem dL_law_1953 : decode cL_law 1953 = .ok (.iconst 1, 1) := by decide +kernel
theorem dL_law_1954 : decode cL_law 1954 = .ok (.iadd, 1) := by decide +kernel
theorem dL_law_1955 : decode cL_law 1955 = .ok (.iaload, 1) := by decide +kernel
theorem dL_law_1956 : decode cL_law 1956 = .ok (.aload_n 3, 1) := by decide +kernel
theorem dL_law_1957 : decode cL_law 1957 = .ok (.invokestatic 199, 3) := by decide +kernel
theorem dL_law_1960 : decode cL_law 1960 = .ok (.istore 5, 2) := by decide +kernel
theorem dL_law_1962 : decode cL_law 1962 = .ok (.aload_n 2, 1) := by decide +kernel
theorem dL_law_1963 : decode cL_law 1963 = .ok (.aload_n 0, 1) := by decide +kernel
theorem dL_law_1964 : decode cL_law 1964 = .ok (.iload 4, 2) := by decide +kernel
theorem dL_law_1966 : decode cL_law 1966 = .ok (.iconst 1, 1) := by decide +kernel
theorem dL_law_1967 : decode cL_law 1967 = .ok (.iadd, 1) := by decide +kernel
theorem dL_law_1968 : decode cL_law 1968 = .ok (.iaload, 1) := by decide +kernel
theorem dL_law_1969 : decode cL_law 1969 = .ok (.invokevirtual 201, 3) := by decide +kernel
theorem dL_law_1972 : decode cL_law 1972 = .ok (.istore 6, 2) := by decide +kernel
theorem dL_law_1974 : decode cL_law 1974 = .ok (.aload_n 2, 1) := by decide +kernel
theorem dL_law_1975 : decode cL_law 1975 = .ok (.invokevirtual 122, 3) := by decide +kernel
theorem dL_law_1978 : decode cL_law 1978 = .ok (.iload 5, 2) := by decide +kernel
theorem dL_law_1980 : decode cL_law 1980 = .ok (.if_icmp .eq 5, 3) := by decide +kernel
theorem dL_law_1983 : decode cL_law 1983 = .ok (.iconst 0, 1) := by decide +kernel
theorem dL_law_1984 : decode cL_law 1984 = .ok (.ireturn, 1) := by decide +kernel
theorem dL_law_1985 : decode cL_law 1985 = .ok (.iload 5, 2) := by decide +kernel
theorem dL_law_1987 : decode cL_law 1987 = .ok (.ifCond .ne 15, 3) := by decide +kernel
theorem dL_law_1990 : decode cL_law 1990 = .ok (.aload_n 3, 1) := by decide +kernel
theorem dL_law_1991 : decode cL_law 1991 = .ok (.iconst 0, 1) := by decide +kernel
theorem dL_law_1992 : decode cL_law 1992 = .ok (.laload, 1) := by decide +kernel
theorem dL_law_1993 : decode cL_law 1993 = .ok (.iload 6, 2) := by decide +kernel
theorem dL_law_1995 : decode cL_law 1995 = .ok (.i2l, 1) := by decide +kernel
theorem dL_law_1996 : decode cL_law 1996 = .ok (.lcmp, 1) := by decide +kernel
theorem dL_law_1997 : decode cL_law 1997 = .ok (.ifCond .eq 5, 3) := by decide +kernel
theorem dL_law_2000 : decode cL_law 2000 = .ok (.iconst 0, 1) := by decide +kernel
theorem dL_law_2001 : decode cL_law 2001 = .ok (.ireturn, 1) := by decide +kernel
theorem dL_law_2002 : decode cL_law 2002 = .ok (.goto 455, 3) := by decide +kernel
theorem dL_law_2005 : decode cL_law 2005 = .ok (.aload_n 1, 1) := by decide +kernel
theorem dL_law_2006 : decode cL_law 2006 = .ok (.aload_n 0, 1) := by decide +kernel
theorem dL_law_2007 : decode cL_law 2007 = .ok (.iload 4, 2) := by decide +kernel
theorem dL_law_2009 : decode cL_law 2009 = .ok (.iconst 1, 1) := by decide +kernel
theorem dL_law_2010 : decode cL_law 2010 = .ok (.iadd, 1) := by decide +kernel
theorem dL_law_2011 : decode cL_law 2011 = .ok (.iaload, 1) := by decide +kernel
theorem dL_law_2012 : decode cL_law 2012 = .ok (.aload_n 3, 1) := by decide +kernel
theorem dL_law_2013 : decode cL_law 2013 = .ok (.invokestatic 202, 3) := by decide +kernel
theorem dL_law_2016 : decode cL_law 2016 = .ok (.istore 5, 2) := by decide +kernel
theorem dL_law_2018 : decode cL_law 2018 = .ok (.aload_n 2, 1) := by decide +kernel
theorem dL_law_2019 : decode cL_law 2019 = .ok (.aload_n 0, 1) := by decide +kernel
theorem dL_law_2020 : decode cL_law 2020 = .ok (.iload 4, 2) := by decide +kernel
theorem dL_law_2022 : decode cL_law 2022 = .ok (.iconst 1, 1) := by decide +kernel
theorem dL_law_2023 : decode cL_law 2023 = .ok (.iadd, 1) := by decide +kernel
theorem dL_law_2024 : decode cL_law 2024 = .ok (.iaload, 1) := by decide +kernel
theorem dL_law_2025 : decode cL_law 2025 = .ok (.invokevirtual 204, 3) := by decide +kernel
theorem dL_law_2028 : decode cL_law 2028 = .ok (.istore 6, 2) := by decide +kernel
theorem dL_law_2030 : decode cL_law 2030 = .ok (.aload_n 2, 1) := by decide +kernel
theorem dL_law_2031 : decode cL_law 2031 = .ok (.invokevirtual 122, 3) := by decide +kernel
theorem dL_law_2034 : decode cL_law 2034 = .ok (.iload 5, 2) := by decide +kernel
theorem dL_law_2036 : decode cL_law 2036 = .ok (.if_icmp .eq 5, 3) := by decide +kernel
theorem dL_law_2039 : decode cL_law 2039 = .ok (.iconst 0, 1) := by decide +kernel
theorem dL_law_2040 : decode cL_law 2040 = .ok (.ireturn, 1) := by decide +kernel
theorem dL_law_2041 : decode cL_law 2041 = .ok (.iload 5, 2) := by decide +kernel
theorem dL_law_2043 : decode cL_law 2043 = .ok (.ifCond .ne 15, 3) := by decide +kernel
theorem dL_law_2046 : decode cL_law 2046 = .ok (.aload_n 3, 1) := by decide +kernel
theorem dL_law_2047 : decode cL_law 2047 = .ok (.iconst 0, 1) := by decide +kernel
theorem dL_law_2048 : decode cL_law 2048 = .ok (.laload, 1) := by decide +kernel
theorem dL_law_2049 : decode cL_law 2049 = .ok (.iload 6, 2) := by decide +kernel
theorem dL_law_2051 : decode cL_law 2051 = .ok (.i2l, 1) := by decide +kernel
theorem dL_law_2052 : decode cL_law 2052 = .ok (.lcmp, 1) := by decide +kernel
theorem dL_law_2053 : decode cL_law 2053 = .ok (.ifCond .eq 5, 3) := by decide +kernel
theorem dL_law_2056 : decode cL_law 2056 = .ok (.iconst 0, 1) := by decide +kernel
theorem dL_law_2057 : decode cL_law 2057 = .ok (.ireturn, 1) := by decide +kernel
theorem dL_law_2058 : decode cL_law 2058 = .ok (.goto 399, 3) := by decide +kernel
theorem dL_law_2061 : decode cL_law 2061 = .ok (.aload_n 1, 1) := by decide +kernel
theorem dL_law_2062 : decode cL_law 2062 = .ok (.aload_n 0, 1) := by decide +kernel
theorem dL_law_2063 : decode cL_law 2063 = .ok (.iload 4, 2) := by decide +kernel
theorem dL_law_2065 : decode cL_law 2065 = .ok (.iconst 1, 1) := by decide +kernel
theorem dL_law_2066 : decode cL_law 2066 = .ok (.iadd, 1) := by decide +kernel
theorem dL_law_2067 : decode cL_law 2067 = .ok (.iaload, 1) := by decide +kernel
theorem dL_law_2068 : decode cL_law 2068 = .ok (.aload_n 0, 1) := by decide +kernel
theorem dL_law_2069 : decode cL_law 2069 = .ok (.iload 4, 2) := by decide +kernel
theorem dL_law_2071 : decode cL_law 2071 = .ok (.iconst 2, 1) := by decide +kernel
theorem dL_law_2072 : decode cL_law 2072 = .ok (.iadd, 1) := by decide +kernel
theorem dL_law_2073 : decode cL_law 2073 = .ok (.iaload, 1) := by decide +kernel
theorem dL_law_2074 : decode cL_law 2074 = .ok (.aload_n 3, 1) := by decide +kernel
theorem dL_law_2075 : decode cL_law 2075 = .ok (.invokestatic 205, 3) := by decide +kernel
theorem dL_law_2078 : decode cL_law 2078 = .ok (.istore 5, 2) := by decide +kernel
theorem dL_law_2080 : decode cL_law 2080 = .ok (.aload_n 2, 1) := by decide +kernel
theorem dL_law_2081 : decode cL_law 2081 = .ok (.aload_n 0, 1) := by decide +kernel
theorem dL_law_2082 : decode cL_law 2082 = .ok (.iload 4, 2) := by decide +kernel
theorem dL_law_2084 : decode cL_law 2084 = .ok (.iconst 1, 1) := by decide +kernel
theorem dL_law_2085 : decode cL_law 2085 = .ok (.iadd, 1) := by decide +kernel
theorem dL_law_2086 : decode cL_law 2086 = .ok (.iaload, 1) := by decide +kernel
theorem dL_law_2087 : decode cL_law 2087 = .ok (.aload_n 0, 1) := by decide +kernel
theorem dL_law_2088 : decode cL_law 2088 = .ok (.iload 4, 2) := by decide +kernel
theorem dL_law_2090 : decode cL_law 2090 = .ok (.iconst 2, 1) := by decide +kernel
theorem dL_law_2091 : decode cL_law 2091 = .ok (.iadd, 1) := by decide +kernel
theorem dL_law_2092 : decode cL_law 2092 = .ok (.iaload, 1) := by decide +kernel
theorem dL_law_2093 : decode cL_law 2093 = .ok (.invokevirtual 207, 3) := by decide +kernel
theorem dL_law_2096 : decode cL_law 2096 = .ok (.istore 6, 2) := by decide +kernel
theorem dL_law_2098 : decode cL_law 2098 = .ok (.aload_n 2, 1) := by decide +kernel
theorem dL_law_2099 : decode cL_law 2099 = .ok (.invokevirtual 122, 3) := by decide +kernel
theorem dL_law_2102 : decode cL_law 2102 = .ok (.iload 5, 2) := by decide +kernel
theorem dL_law_2104 : decode cL_law 2104 = .ok (.if_icmp .eq 5, 3) := by decide +kernel
theorem dL_law_2107 : decode cL_law 2107 = .ok (.iconst 0, 1) := by decide +kernel
theorem dL_law_2108 : decode cL_law 2108 = .ok (.ireturn, 1) := by decide +kernel
theorem dL_law_2109 : decode cL_law 2109 = .ok (.iload 5, 2) := by decide +kernel
theorem dL_law_2111 : decode cL_law 2111 = .ok (.ifCond .ne 15, 3) := by decide +kernel
theorem dL_law_2114 : decode cL_law 2114 = .ok (.aload_n 3, 1) := by decide +kernel
theorem dL_law_2115 : decode cL_law 2115 = .ok (.iconst 0, 1) := by decide +kernel
theorem dL_law_2116 : decode cL_law 2116 = .ok (.laload, 1) := by decide +kernel
theorem dL_law_2117 : decode cL_law 2117 = .ok (.iload 6, 2) := by decide +kernel
theorem dL_law_2119 : decode cL_law 2119 = .ok (.i2l, 1) := by decide +kernel
theorem dL_law_2120 : decode cL_law 2120 = .ok (.lcmp, 1) := by decide +kernel
theorem dL_law_2121 : decode cL_law 2121 = .ok (.ifCond .eq 5, 3) := by decide +kernel
theorem dL_law_2124 : decode cL_law 2124 = .ok (.iconst 0, 1) := by decide +kernel
theorem dL_law_2125 : decode cL_law 2125 = .ok (.ireturn, 1) := by decide +kernel
theorem dL_law_2126 : decode cL_law 2126 = .ok (.goto 331, 3) := by decide +kernel
theorem dL_law_2129 : decode cL_law 2129 = .ok (.aload_n 1, 1) := by decide +kernel
theorem dL_law_2130 : decode cL_law 2130 = .ok (.aload_n 0, 1) := by decide +kernel
theorem dL_law_2131 : decode cL_law 2131 = .ok (.iload 4, 2) := by decide +kernel
theorem dL_law_2133 : decode cL_law 2133 = .ok (.iconst 1, 1) := by decide +kernel
theorem dL_law_2134 : decode cL_law 2134 = .ok (.iadd, 1) := by decide +kernel
theorem dL_law_2135 : decode cL_law 2135 = .ok (.iaload, 1) := by decide +kernel
theorem dL_law_2136 : decode cL_law 2136 = .ok (.aload_n 0, 1) := by decide +kernel
theorem dL_law_2137 : decode cL_law 2137 = .ok (.iload 4, 2) := by decide +kernel
theorem dL_law_2139 : decode cL_law 2139 = .ok (.iconst 2, 1) := by decide +kernel
theorem dL_law_2140 : decode cL_law 2140 = .ok (.iadd, 1) := by decide +kernel
theorem dL_law_2141 : decode cL_law 2141 = .ok (.iaload, 1) := by decide +kernel
theorem dL_law_2142 : decode cL_law 2142 = .ok (.aload_n 0, 1) := by decide +kernel
theorem dL_law_2143 : decode cL_law 2143 = .ok (.iload 4, 2) := by decide +kernel
theorem dL_law_2145 : decode cL_law 2145 = .ok (.iconst 3, 1) := by decide +kernel
theorem dL_law_2146 : decode cL_law 2146 = .ok (.iadd, 1) := by decide +kernel
theorem dL_law_2147 : decode cL_law 2147 = .ok (.iaload, 1) := by decide +kernel
theorem dL_law_2148 : decode cL_law 2148 = .ok (.aload_n 3, 1) := by decide +kernel
theorem dL_law_2149 : decode cL_law 2149 = .ok (.invokestatic 208, 3) := by decide +kernel
theorem dL_law_2152 : decode cL_law 2152 = .ok (.istore 5, 2) := by decide +kernel
theorem dL_law_2154 : decode cL_law 2154 = .ok (.aload_n 2, 1) := by decide +kernel
theorem dL_law_2155 : decode cL_law 2155 = .ok (.aload_n 0, 1) := by decide +kernel
theorem dL_law_2156 : decode cL_law 2156 = .ok (.iload 4, 2) := by decide +kernel
theorem dL_law_2158 : decode cL_law 2158 = .ok (.iconst 1, 1) := by decide +kernel
theorem dL_law_2159 : decode cL_law 2159 = .ok (.iadd, 1) := by decide +kernel
theorem dL_law_2160 : decode cL_law 2160 = .ok (.iaload, 1) := by decide +kernel
theorem dL_law_2161 : decode cL_law 2161 = .ok (.aload_n 0, 1) := by decide +kernel
theorem dL_law_2162 : decode cL_law 2162 = .ok (.iload 4, 2) := by decide +kernel
theorem dL_law_2164 : decode cL_law 2164 = .ok (.iconst 2, 1) := by decide +kernel
