theorem dL_law__1894 : decode cL_law_ 1894 = .ok (.ifCond .ne 15, 3) := by decide +kernel
theorem dL_law__1897 : decode cL_law_ 1897 = .ok (.aload_n 3, 1) := by decide +kernel
theorem dL_law__1898 : decode cL_law_ 1898 = .ok (.iconst 0, 1) := by decide +kernel
theorem dL_law__1899 : decode cL_law_ 1899 = .ok (.laload, 1) := by decide +kernel
theorem dL_law__1900 : decode cL_law_ 1900 = .ok (.iload 6, 2) := by decide +kernel
theorem dL_law__1902 : decode cL_law_ 1902 = .ok (.i2l, 1) := by decide +kernel
theorem dL_law__1903 : decode cL_law_ 1903 = .ok (.lcmp, 1) := by decide +kernel
theorem dL_law__1904 : decode cL_law_ 1904 = .ok (.ifCond .eq 5, 3) := by decide +kernel
theorem dL_law__1907 : decode cL_law_ 1907 = .ok (.iconst 0, 1) := by decide +kernel
theorem dL_law__1908 : decode cL_law_ 1908 = .ok (.ireturn, 1) := by decide +kernel
theorem dL_law__1909 : decode cL_law_ 1909 = .ok (.goto 500, 3) := by decide +kernel
theorem dL_law__1912 : decode cL_law_ 1912 = .ok (.aload_n 1, 1) := by decide +kernel
theorem dL_law__1913 : decode cL_law_ 1913 = .ok (.aload_n 0, 1) := by decide +kernel
theorem dL_law__1914 : decode cL_law_ 1914 = .ok (.iload 4, 2) := by decide +kernel
theorem dL_law__1916 : decode cL_law_ 1916 = .ok (.iconst 1, 1) := by decide +kernel
theorem dL_law__1917 : decode cL_law_ 1917 = .ok (.iadd, 1) := by decide +kernel
theorem dL_law__1918 : decode cL_law_ 1918 = .ok (.iaload, 1) := by decide +kernel
theorem dL_law__1919 : decode cL_law_ 1919 = .ok (.aload_n 3, 1) := by decide +kernel
theorem dL_law__1920 : decode cL_law_ 1920 = .ok (.invokestatic 210, 3) := by decide +kernel
theorem dL_law__1923 : decode cL_law_ 1923 = .ok (.istore 5, 2) := by decide +kernel
theorem dL_law__1925 : decode cL_law_ 1925 = .ok (.aload_n 2, 1) := by decide +kernel
theorem dL_law__1926 : decode cL_law_ 1926 = .ok (.aload_n 0, 1) := by decide +kernel
theorem dL_law__1927 : decode cL_law_ 1927 = .ok (.iload 4, 2) := by decide +kernel
theorem dL_law__1929 : decode cL_law_ 1929 = .ok (.iconst 1, 1) := by decide +kernel
theorem dL_law__1930 : decode cL_law_ 1930 = .ok (.iadd, 1) := by decide +kernel
theorem dL_law__1931 : decode cL_law_ 1931 = .ok (.iaload, 1) := by decide +kernel
theorem dL_law__1932 : decode cL_law_ 1932 = .ok (.invokevirtual 212, 3) := by decide +kernel
theorem dL_law__1935 : decode cL_law_ 1935 = .ok (.istore 6, 2) := by decide +kernel
theorem dL_law__1937 : decode cL_law_ 1937 = .ok (.aload_n 2, 1) := by decide +kernel
theorem dL_law__1938 : decode cL_law_ 1938 = .ok (.invokevirtual 121, 3) := by decide +kernel
theorem dL_law__1941 : decode cL_law_ 1941 = .ok (.iload 5, 2) := by decide +kernel
theorem dL_law__1943 : decode cL_law_ 1943 = .ok (.if_icmp .eq 5, 3) := by decide +kernel
theorem dL_law__1946 : decode cL_law_ 1946 = .ok (.iconst 0, 1) := by decide +kernel
theorem dL_law__1947 : decode cL_law_ 1947 = .ok (.ireturn, 1) := by decide +kernel
theorem dL_law__1948 : decode cL_law_ 1948 = .ok (.iload 5, 2) := by decide +kernel
theorem dL_law__1950 : decode cL_law_ 1950 = .ok (.ifCond .ne 15, 3) := by decide +kernel
theorem dL_law__1953 : decode cL_law_ 1953 = .ok (.aload_n 3, 1) := by decide +kernel
theorem dL_law__1954 : decode cL_law_ 1954 = .ok (.iconst 0, 1) := by decide +kernel
theorem dL_law__1955 : decode cL_law_ 1955 = .ok (.laload, 1) := by decide +kernel
theorem dL_law__1956 : decode cL_law_ 1956 = .ok (.iload 6, 2) := by decide +kernel
theorem dL_law__1958 : decode cL_law_ 1958 = .ok (.i2l, 1) := by decide +kernel
theorem dL_law__1959 : decode cL_law_ 1959 = .ok (.lcmp, 1) := by decide +kernel
theorem dL_law__1960 : decode cL_law_ 1960 = .ok (.ifCond .eq 5, 3) := by decide +kernel
theorem dL_law__1963 : decode cL_law_ 1963 = .ok (.iconst 0, 1) := by decide +kernel
theorem dL_law__1964 : decode cL_law_ 1964 = .ok (.ireturn, 1) := by decide +kernel
theorem dL_law__1965 : decode cL_law_ 1965 = .ok (.goto 444, 3) := by decide +kernel
theorem dL_law__1968 : decode cL_law_ 1968 = .ok (.aload_n 1, 1) := by decide +kernel
theorem dL_law__1969 : decode cL_law_ 1969 = .ok (.invokevirtual 213, 3) := by decide +kernel
theorem dL_law__1972 : decode cL_law_ 1972 = .ok (.aload_n 2, 1) := by decide +kernel
theorem dL_law__1973 : decode cL_law_ 1973 = .ok (.invokevirtual 216, 3) := by decide +kernel
theorem dL_law__1976 : decode cL_law_ 1976 = .ok (.if_icmp .eq 433, 3) := by decide +kernel
theorem dL_law__1979 : decode cL_law_ 1979 = .ok (.iconst 0, 1) := by decide +kernel
theorem dL_law__1980 : decode cL_law_ 1980 = .ok (.ireturn, 1) := by decide +kernel
theorem dL_law__1981 : decode cL_law_ 1981 = .ok (.aload_n 1, 1) := by decide +kernel
theorem dL_law__1982 : decode cL_law_ 1982 = .ok (.aload_n 0, 1) := by decide +kernel
theorem dL_law__1983 : decode cL_law_ 1983 = .ok (.iload 4, 2) := by decide +kernel
theorem dL_law__1985 : decode cL_law_ 1985 = .ok (.iconst 1, 1) := by decide +kernel
theorem dL_law__1986 : decode cL_law_ 1986 = .ok (.iadd, 1) := by decide +kernel
theorem dL_law__1987 : decode cL_law_ 1987 = .ok (.iaload, 1) := by decide +kernel
theorem dL_law__1988 : decode cL_law_ 1988 = .ok (.aload_n 3, 1) := by decide +kernel
theorem dL_law__1989 : decode cL_law_ 1989 = .ok (.invokestatic 217, 3) := by decide +kernel
theorem dL_law__1992 : decode cL_law_ 1992 = .ok (.istore 5, 2) := by decide +kernel
theorem dL_law__1994 : decode cL_law_ 1994 = .ok (.aload_n 2, 1) := by decide +kernel
theorem dL_law__1995 : decode cL_law_ 1995 = .ok (.aload_n 0, 1) := by decide +kernel
theorem dL_law__1996 : decode cL_law_ 1996 = .ok (.iload 4, 2) := by decide +kernel
theorem dL_law__1998 : decode cL_law_ 1998 = .ok (.iconst 1, 1) := by decide +kernel
theorem dL_law__1999 : decode cL_law_ 1999 = .ok (.iadd, 1) := by decide +kernel
theorem dL_law__2000 : decode cL_law_ 2000 = .ok (.iaload, 1) := by decide +kernel
theorem dL_law__2001 : decode cL_law_ 2001 = .ok (.invokevirtual 219, 3) := by decide +kernel
theorem dL_law__2004 : decode cL_law_ 2004 = .ok (.istore 6, 2) := by decide +kernel
theorem dL_law__2006 : decode cL_law_ 2006 = .ok (.aload_n 2, 1) := by decide +kernel
theorem dL_law__2007 : decode cL_law_ 2007 = .ok (.invokevirtual 121, 3) := by decide +kernel
theorem dL_law__2010 : decode cL_law_ 2010 = .ok (.iload 5, 2) := by decide +kernel
theorem dL_law__2012 : decode cL_law_ 2012 = .ok (.if_icmp .eq 5, 3) := by decide +kernel
theorem dL_law__2015 : decode cL_law_ 2015 = .ok (.iconst 0, 1) := by decide +kernel
theorem dL_law__2016 : decode cL_law_ 2016 = .ok (.ireturn, 1) := by decide +kernel
theorem dL_law__2017 : decode cL_law_ 2017 = .ok (.iload 5, 2) := by decide +kernel
theorem dL_law__2019 : decode cL_law_ 2019 = .ok (.ifCond .ne 15, 3) := by decide +kernel
theorem dL_law__2022 : decode cL_law_ 2022 = .ok (.aload_n 3, 1) := by decide +kernel
theorem dL_law__2023 : decode cL_law_ 2023 = .ok (.iconst 0, 1) := by decide +kernel
theorem dL_law__2024 : decode cL_law_ 2024 = .ok (.laload, 1) := by decide +kernel
theorem dL_law__2025 : decode cL_law_ 2025 = .ok (.iload 6, 2) := by decide +kernel
theorem dL_law__2027 : decode cL_law_ 2027 = .ok (.i2l, 1) := by decide +kernel
theorem dL_law__2028 : decode cL_law_ 2028 = .ok (.lcmp, 1) := by decide +kernel
theorem dL_law__2029 : decode cL_law_ 2029 = .ok (.ifCond .eq 5, 3) := by decide +kernel
theorem dL_law__2032 : decode cL_law_ 2032 = .ok (.iconst 0, 1) := by decide +kernel
theorem dL_law__2033 : decode cL_law_ 2033 = .ok (.ireturn, 1) := by decide +kernel
theorem dL_law__2034 : decode cL_law_ 2034 = .ok (.goto 375, 3) := by decide +kernel
theorem dL_law__2037 : decode cL_law_ 2037 = .ok (.aload_n 1, 1) := by decide +kernel
theorem dL_law__2038 : decode cL_law_ 2038 = .ok (.aload_n 0, 1) := by decide +kernel
theorem dL_law__2039 : decode cL_law_ 2039 = .ok (.iload 4, 2) := by decide +kernel
theorem dL_law__2041 : decode cL_law_ 2041 = .ok (.iconst 1, 1) := by decide +kernel
theorem dL_law__2042 : decode cL_law_ 2042 = .ok (.iadd, 1) := by decide +kernel
theorem dL_law__2043 : decode cL_law_ 2043 = .ok (.iaload, 1) := by decide +kernel
theorem dL_law__2044 : decode cL_law_ 2044 = .ok (.aload_n 3, 1) := by decide +kernel
theorem dL_law__2045 : decode cL_law_ 2045 = .ok (.invokestatic 220, 3) := by decide +kernel
theorem dL_law__2048 : decode cL_law_ 2048 = .ok (.istore 5, 2) := by decide +kernel
theorem dL_law__2050 : decode cL_law_ 2050 = .ok (.aload_n 2, 1) := by decide +kernel
theorem dL_law__2051 : decode cL_law_ 2051 = .ok (.aload_n 0, 1) := by decide +kernel
theorem dL_law__2052 : decode cL_law_ 2052 = .ok (.iload 4, 2) := by decide +kernel
theorem dL_law__2054 : decode cL_law_ 2054 = .ok (.iconst 1, 1) := by decide +kernel
theorem dL_law__2055 : decode cL_law_ 2055 = .ok (.iadd, 1) := by decide +kernel
theorem dL_law__2056 : decode cL_law_ 2056 = .ok (.iaload, 1) := by decide +kernel
theorem dL_law__2057 : decode cL_law_ 2057 = .ok (.invokevirtual 222, 3) := by decide +kernel
theorem dL_law__2060 : decode cL_law_ 2060 = .ok (.istore 6, 2) := by decide +kernel
theorem dL_law__2062 : decode cL_law_ 2062 = .ok (.aload_n 2, 1) := by decide +kernel
theorem dL_law__2063 : decode cL_law_ 2063 = .ok (.invokevirtual 121, 3) := by decide +kernel
theorem dL_law__2066 : decode cL_law_ 2066 = .ok (.iload 5, 2) := by decide +kernel
theorem dL_law__2068 : decode cL_law_ 2068 = .ok (.if_icmp .eq 5, 3) := by decide +kernel
theorem dL_law__2071 : decode cL_law_ 2071 = .ok (.iconst 0, 1) := by decide +kernel
theorem dL_law__2072 : decode cL_law_ 2072 = .ok (.ireturn, 1) := by decide +kernel
theorem dL_law__2073 : decode cL_law_ 2073 = .ok (.iload 5, 2) := by decide +kernel
theorem dL_law__2075 : decode cL_law_ 2075 = .ok (.ifCond .ne 15, 3) := by decide +kernel
theorem dL_law__2078 : decode cL_law_ 2078 = .ok (.aload_n 3, 1) := by decide +kernel
theorem dL_law__2079 : decode cL_law_ 2079 = .ok (.iconst 0, 1) := by decide +kernel
theorem dL_law__2080 : decode cL_law_ 2080 = .ok (.laload, 1) := by decide +kernel
theorem dL_law__2081 : decode cL_law_ 2081 = .ok (.iload 6, 2) := by decide +kernel
theorem dL_law__2083 : decode cL_law_ 2083 = .ok (.i2l, 1) := by decide +kernel
theorem dL_law__2084 : decode cL_law_ 2084 = .ok (.lcmp, 1) := by decide +kernel
theorem dL_law__2085 : decode cL_law_ 2085 = .ok (.ifCond .eq 5, 3) := by decide +kernel
theorem dL_law__2088 : decode cL_law_ 2088 = .ok (.iconst 0, 1) := by decide +kernel
theorem dL_law__2089 : decode cL_law_ 2089 = .ok (.ireturn, 1) := by decide +kernel
theorem dL_law__2090 : decode cL_law_ 2090 = .ok (.goto 319, 3) := by decide +kernel
theorem dL_law__2093 : decode cL_law_ 2093 = .ok (.aload_n 1, 1) := by decide +kernel
theorem dL_law__2094 : decode cL_law_ 2094 = .ok (.aload_n 0, 1) := by decide +kernel
theorem dL_law__2095 : decode cL_law_ 2095 = .ok (.iload 4, 2) := by decide +kernel
theorem dL_law__2097 : decode cL_law_ 2097 = .ok (.iconst 1, 1) := by decide +kernel
theorem dL_law__2098 : decode cL_law_ 2098 = .ok (.iadd, 1) := by decide +kernel
theorem dL_law__2099 : decode cL_law_ 2099 = .ok (.iaload, 1) := by decide +kernel
theorem dL_law__2100 : decode cL_law_ 2100 = .ok (.aload_n 3, 1) := by decide +kernel
theorem dL_law__2101 : decode cL_law_ 2101 = .ok (.invokestatic 223, 3) := by decide +kernel
theorem dL_law__2104 : decode cL_law_ 2104 = .ok (.istore 5, 2) := by decide +kernel
theorem dL_law__2106 : decode cL_law_ 2106 = .ok (.aload_n 2, 1) := by decide +kernel
theorem dL_law__2107 : decode cL_law_ 2107 = .ok (.aload_n 0, 1) := by decide +kernel
theorem dL_law__2108 : decode cL_law_ 2108 = .ok (.iload 4, 2) := by decide +kernel
theorem dL_law__2110 : decode cL_law_ 2110 = .ok (.iconst 1, 1) := by decide +kernel
theorem dL_law__2111 : decode cL_law_ 2111 = .ok (.iadd, 1) := by decide +kernel
theorem dL_law__2112 : decode cL_law_ 2112 = .ok (.iaload, 1) := by decide +kernel
theorem dL_law__2113 : decode cL_law_ 2113 = .ok (.invokevirtual 225, 3) := by decide +kernel
theorem dL_law__2116 : decode cL_law_ 2116 = .ok (.istore 6, 2) := by decide +kernel
theorem dL_law__2118 : decode cL_law_ 2118 = .ok (.aload_n 2, 1) := by decide +kernel
theorem dL_law__2119 : decode cL_law_ 2119 = .ok (.invokevirtual 121, 3) := by decide +kernel
theorem dL_law__2122 : decode cL_law_ 2122 = .ok (.iload 5, 2) := by decide +kernel
theorem dL_law__2124 : decode cL_law_ 2124 = .ok (.if_icmp .eq 5, 3) := by decide +kernel
theorem dL_law__2127 : decode cL_law_ 2127 = .ok (.iconst 0, 1) := by decide +kernel
theorem dL_law__2128 : decode cL_law_ 2128 = .ok (.ireturn, 1) := by decide +kernel
theorem dL_law__2129 : decode cL_law_ 2129 = .ok (.iload 5, 2) := by decide +kernel
theorem dL_law__2131 : decode cL_law_ 2131 = .ok (.ifCond .ne 15, 3) := by decide +kernel
theorem dL_law__2134 : decode cL_law_ 2134 = .ok (.aload_n 3, 1) := by decide +kernel
theorem dL_law__2135 : decode cL_law_ 2135 = .ok (.iconst 0, 1) := by decide +kernel
theorem dL_law__2136 : decode cL_law_ 2136 = .ok (.laload, 1) := by decide +kernel
theorem dL_law__2137 : decode cL_law_ 2137 = .ok (.iload 6, 2) := by decide +kernel
theorem dL_law__2139 : decode cL_law_ 2139 = .ok (.i2l, 1) := by decide +kernel
theorem dL_law__2140 : decode cL_law_ 2140 = .ok (.lcmp, 1) := by decide +kernel
theorem dL_law__2141 : decode cL_law_ 2141 = .ok (.ifCond .eq 5, 3) := by decide +kernel
theorem dL_law__2144 : decode cL_law_ 2144 = .ok (.iconst 0, 1) := by decide +kernel
theorem dL_law__2145 : decode cL_law_ 2145 = .ok (.ireturn, 1) := by decide +kernel
theorem dL_law__2146 : decode cL_law_ 2146 = .ok (.goto 263, 3) := by decide +kernel
theorem dL_law__2149 : decode cL_law_ 2149 = .ok (.aload_n 1, 1) := by decide +kernel
theorem dL_law__2150 : decode cL_law_ 2150 = .ok (.aload_n 0, 1) := by decide +kernel
theorem dL_law__2151 : decode cL_law_ 2151 = .ok (.iload 4, 2) := by decide +kernel
theorem dL_law__2153 : decode cL_law_ 2153 = .ok (.iconst 1, 1) := by decide +kernel
theorem dL_law__2154 : decode cL_law_ 2154 = .ok (.iadd, 1) := by decide +kernel
theorem dL_law__2155 : decode cL_law_ 2155 = .ok (.iaload, 1) := by decide +kernel
theorem dL_law__2156 : decode cL_law_ 2156 = .ok (.aload_n 0, 1) := by decide +kernel
theorem dL_law__2157 : decode cL_law_ 2157 = .ok (.iload 4, 2) := by decide +kernel
theorem dL_law__2159 : decode cL_law_ 2159 = .ok (.iconst 2, 1) := by decide +kernel
theorem dL_law__2160 : decode cL_law_ 2160 = .ok (.iadd, 1) := by decide +kernel
theorem dL_law__2161 : decode cL_law_ 2161 = .ok (.iaload, 1) := by decide +kernel
theorem dL_law__2162 : decode cL_law_ 2162 = .ok (.aload_n 0, 1) := by decide +kernel
theorem dL_law__2163 : decode cL_law_ 2163 = .ok (.iload 4, 2) := by decide +kernel
theorem dL_law__2165 : decode cL_law_ 2165 = .ok (.iconst 3, 1) := by decide +kernel
theorem dL_law__2166 : decode cL_law_ 2166 = .ok (.iadd, 1) := by decide +kernel
theorem dL_law__2167 : decode cL_law_ 2167 = .ok (.iaload, 1) := by decide +kernel
theorem dL_law__2168 : decode cL_law_ 2168 = .ok (.aload_n 3, 1) := by decide +kernel
theorem dL_law__2169 : decode cL_law_ 2169 = .ok (.invokestatic 226, 3) := by decide +kernel
theorem dL_law__2172 : decode cL_law_ 2172 = .ok (.istore 5, 2) := by decide +kernel
theorem dL_law__2174 : decode cL_law_ 2174 = .ok (.aload_n 2, 1) := by decide +kernel
theorem dL_law__2175 : decode cL_law_ 2175 = .ok (.aload_n 0, 1) := by decide +kernel
theorem dL_law__2176 : decode cL_law_ 2176 = .ok (.iload 4, 2) := by decide +kernel
theorem dL_law__2178 : decode cL_law_ 2178 = .ok (.iconst 1, 1) := by decide +kernel
theorem dL_law__2179 : decode cL_law_ 2179 = .ok (.iadd, 1) := by decide +kernel
theorem dL_law__2180 : decode cL_law_ 2180 = .ok (.iaload, 1) := by decide +kernel
theorem dL_law__2181 : decode cL_law_ 2181 = .ok (.aload_n 0, 1) := by decide +kernel
theorem dL_law__2182 : decode cL_law_ 2182 = .ok (.iload 4, 2) := by decide +kernel
theorem dL_law__2184 : decode cL_law_ 2184 = .ok (.iconst 2, 1) := by decide +kernel
theorem dL_law__2185 : decode cL_law_ 2185 = .ok (.iadd, 1) := by decide +kernel
theorem dL_law__2186 : decode cL_law_ 2186 = .ok (.iaload, 1) := by decide +kernel
theorem dL_law__2187 : decode cL_law_ 2187 = .ok (.aload_n 0, 1) := by decide +kernel
theorem dL_law__2188 : decode cL_law_ 2188 = .ok (.iload 4, 2) := by decide +kernel
theorem dL_law__2190 : decode cL_law_ 2190 = .ok (.iconst 3, 1) := by decide +kernel
theorem dL_law__2191 : decode cL_law_ 2191 = .ok (.iadd, 1) := by decide +kernel
theorem dL_law__2192 : decode cL_law_ 2192 = .ok (.iaload, 1) := by decide +kernel
theorem dL_law__2193 : decode cL_law_ 2193 = .ok (.invokevirtual 228, 3) := by decide +kernel
theorem dL_law__2196 : decode cL_law_ 2196 = .ok (.istore 6, 2) := by decide +kernel
theorem dL_law__2198 : decode cL_law_ 2198 = .ok (.aload_n 2, 1) := by decide +kernel
theorem dL_law__2199 : decode cL_law_ 2199 = .ok (.invokevirtual 121, 3) := by decide +kernel
theorem dL_law__2202 : decode cL_law_ 2202 = .ok (.iload 5, 2) := by decide +kernel
theorem dL_law__2204 : decode cL_law_ 2204 = .ok (.if_icmp .eq 5, 3) := by decide +kernel
theorem dL_law__2207 : decode cL_law_ 2207 = .ok (.iconst 0, 1) := by decide +kernel
theorem dL_law__2208 : decode cL_law_ 2208 = .ok (.ireturn, 1) := by decide +kernel
theorem dL_law__2209 : decode cL_law_ 2209 = .ok (.iload 5, 2) := by decide +kernel
theorem dL_law__2211 : decode cL_law_ 2211 = .ok (.ifCond .ne 15, 3) := by decide +kernel
theorem dL_law__2214 : decode cL_law_ 2214 = .ok (.aload_n 3, 1) := by decide +kernel
theorem dL_law__2215 : decode cL_law_ 2215 = .ok (.iconst 0, 1) := by decide +kernel
theorem dL_law__2216 : decode cL_law_ 2216 = .ok (.laload, 1) := by decide +kernel
theorem dL_law__2217 : decode cL_law_ 2217 = .ok (.iload 6, 2) := by decide +kernel
theorem dL_law__2219 : decode cL_law_ 2219 = .ok (.i2l, 1) := by decide +kernel
theorem dL_law__2220 : decode cL_law_ 2220 = .ok (.lcmp, 1) := by decide +kernel
theorem dL_law__2221 : decode cL_law_ 2221 = .ok (.ifCond .eq 5, 3) := by decide +kernel
theorem dL_law__2224 : decode cL_law_ 2224 = .ok (.iconst 0, 1) := by decide +kernel
theorem dL_law__2225 : decode cL_law_ 2225 = .ok (.ireturn, 1) := by decide +kernel
theorem dL_law__2226 : decode cL_law_ 2226 = .ok (.goto 183, 3) := by decide +kernel
theorem dL_law__2229 : decode cL_law_ 2229 = .ok (.aload_n 1, 1) := by decide +kernel
theorem dL_law__2230 : decode cL_law_ 2230 = .ok (.aload_n 0, 1) := by decide +kernel
theorem dL_law__2231 : decode cL_law_ 2231 = .ok (.iload 4, 2) := by decide +kernel
theorem dL_law__2233 : decode cL_law_ 2233 = .ok (.iconst 1, 1) := by decide +kernel
theorem dL_law__2234 : decode cL_law_ 2234 = .ok (.iadd, 1) := by decide +kernel
theorem dL_law__2235 : decode cL_law_ 2235 = .ok (.iaload, 1) := by decide +kernel
theorem dL_law__2236 : decode cL_law_ 2236 = .ok (.aload_n 0, 1) := by decide +kernel
theorem dL_law__2237 : decode cL_law_ 2237 = .ok (.iload 4, 2) := by decide +kernel
theorem dL_law__2239 : decode cL_law_ 2239 = .ok (.iconst 2, 1) := by decide +kernel
theorem dL_law__2240 : decode cL_law_ 2240 = .ok (.iadd, 1) := by decide +kernel
theorem dL_law__2241 : decode cL_law_ 2241 = .ok (.iaload, 1) := by decide +kernel
theorem dL_law__2242 : decode cL_law_ 2242 = .ok (.aload_n 0, 1) := by decide +kernel
theorem dL_law__2243 : decode cL_law_ 2243 = .ok (.iload 4, 2) := by decide +kernel
theorem dL_law__2245 : decode cL_law_ 2245 = .ok (.iconst 3, 1) := by decide +kernel
theorem dL_law__2246 : decode cL_law_ 2246 = .ok (.iadd, 1) := by decide +kernel
theorem dL_law__2247 : decode cL_law_ 2247 = .ok (.iaload, 1) := by decide +kernel
theorem dL_law__2248 : decode cL_law_ 2248 = .ok (.aload_n 0, 1) := by decide +kernel
theorem dL_law__2249 : decode cL_law_ 2249 = .ok (.iload 4, 2) := by decide +kernel
theorem dL_law__2251 : decode cL_law_ 2251 = .ok (.iconst 4, 1) := by decide +kernel
theorem dL_law__2252 : decode cL_law_ 2252 = .ok (.iadd, 1) := by decide +kernel
theorem dL_law__2253 : decode cL_law_ 2253 = .ok (.iaload, 1) := by decide +kernel
theorem dL_law__2254 : decode cL_law_ 2254 = .ok (.aload_n 0, 1) := by decide +kernel
theorem dL_law__2255 : decode cL_law_ 2255 = .ok (.iload 4, 2) := by decide +kernel
theorem dL_law__2257 : decode cL_law_ 2257 = .ok (.iconst 5, 1) := by decide +kernel
theorem dL_law__2258 : decode cL_law_ 2258 = .ok (.iadd, 1) := by decide +kernel
theorem dL_law__2259 : decode cL_law_ 2259 = .ok (.iaload, 1) := by decide +kernel
theorem dL_law__2260 : decode cL_law_ 2260 = .ok (.aload_n 3, 1) := by decide +kernel
theorem dL_law__2261 : decode cL_law_ 2261 = .ok (.invokestatic 229, 3) := by decide +kernel
theorem dL_law__2264 : decode cL_law_ 2264 = .ok (.istore 5, 2) := by decide +kernel
theorem dL_law__2266 : decode cL_law_ 2266 = .ok (.aload_n 2, 1) := by decide +kernel
theorem dL_law__2267 : decode cL_law_ 2267 = .ok (.aload_n 0, 1) := by decide +kernel
theorem dL_law__2268 : decode cL_law_ 2268 = .ok (.iload 4, 2) := by decide +kernel
theorem dL_law__2270 : decode cL_law_ 2270 = .ok (.iconst 1, 1) := by decide +kernel
theorem dL_law__2271 : decode cL_law_ 2271 = .ok (.iadd, 1) := by decide +kernel
theorem dL_law__2272 : decode cL_law_ 2272 = .ok (.iaload, 1) := by decide +kernel
theorem dL_law__2273 : decode cL_law_ 2273 = .ok (.aload_n 0, 1) := by decide +kernel
theorem dL_law__2274 : decode cL_law_ 2274 = .ok (.iload 4, 2) := by decide +kernel
theorem dL_law__2276 : decode cL_law_ 2276 = .ok (.iconst 2, 1) := by decide +kernel
theorem dL_law__2277 : decode cL_law_ 2277 = .ok (.iadd, 1) := by decide +kernel
theorem dL_law__2278 : decode cL_law_ 2278 = .ok (.iaload, 1) := by decide +kernel
theorem dL_law__2279 : decode cL_law_ 2279 = .ok (.aload_n 0, 1) := by decide +kernel
theorem dL_law__2280 : decode cL_law_ 2280 = .ok (.iload 4, 2) := by decide +kernel
theorem dL_law__2282 : decode cL_law_ 2282 = .ok (.iconst 3, 1) := by decide +kernel
theorem dL_law__2283 : decode cL_law_ 2283 = .ok (.iadd, 1) := by decide +kernel
theorem dL_law__2284 : decode cL_law_ 2284 = .ok (.iaload, 1) := by decide +kernel
theorem dL_law__2285 : decode cL_law_ 2285 = .ok (.aload_n 0, 1) := by decide +kernel
theorem dL_law__2286 : decode cL_law_ 2286 = .ok (.iload 4, 2) := by decide +kernel
theorem dL_law__2288 : decode cL_law_ 2288 = .ok (.iconst 4, 1) := by decide +kernel
theorem dL_law__2289 : decode cL_law_ 2289 = .ok (.iadd, 1) := by decide +kernel
theorem dL_law__2290 : decode cL_law_ 2290 = .ok (.iaload, 1) := by decide +kernel
theorem dL_law__2291 : decode cL_law_ 2291 = .ok (.aload_n 0, 1) := by decide +kernel
theorem dL_law__2292 : decode cL_law_ 2292 = .ok (.iload 4, 2) := by decide +kernel
theorem dL_law__2294 : decode cL_law_ 2294 = .ok (.iconst 5, 1) := by decide +kernel
theorem dL_law__2295 : decode cL_law_ 2295 = .ok (.iadd, 1) := by decide +kernel
theorem dL_law__2296 : decode cL_law_ 2296 = .ok (.iaload, 1) := by decide +kernel
theorem dL_law__2297 : decode cL_law_ 2297 = .ok (.invokevirtual 232, 3) := by decide +kernel
theorem dL_law__2300 : decode cL_law_ 2300 = .ok (.istore 6, 2) := by decide +kernel
theorem dL_law__2302 : decode cL_law_ 2302 = .ok (.aload_n 2, 1) := by decide +kernel
theorem dL_law__2303 : decode cL_law_ 2303 = .ok (.invokevirtual 121, 3) := by decide +kernel
theorem dL_law__2306 : decode cL_law_ 2306 = .ok (.iload 5, 2) := by decide +kernel
theorem dL_law__2308 : decode cL_law_ 2308 = .ok (.if_icmp .eq 5, 3) := by decide +kernel
theorem dL_law__2311 : decode cL_law_ 2311 = .ok (.iconst 0, 1) := by decide +kernel
theorem dL_law__2312 : decode cL_law_ 2312 = .ok (.ireturn, 1) := by decide +kernel
theorem dL_law__2313 : decode cL_law_ 2313 = .ok (.iload 5, 2) := by decide +kernel
theorem dL_law__2315 : decode cL_law_ 2315 = .ok (.ifCond .ne 15, 3) := by decide +kernel
theorem dL_law__2318 : decode cL_law_ 2318 = .ok (.aload_n 3, 1) := by decide +kernel
theorem dL_law__2319 : decode cL_law_ 2319 = .ok (.iconst 0, 1) := by decide +kernel
theorem dL_law__2320 : decode cL_law_ 2320 = .ok (.laload, 1) := by decide +kernel
theorem dL_law__2321 : decode cL_law_ 2321 = .ok (.iload 6, 2) := by decide +kernel
theorem dL_law__2323 : decode cL_law_ 2323 = .ok (.i2l, 1) := by decide +kernel
theorem dL_law__2324 : decode cL_law_ 2324 = .ok (.lcmp, 1) := by decide +kernel
theorem dL_law__2325 : decode cL_law_ 2325 = .ok (.ifCond .eq 5, 3) := by decide +kernel
theorem dL_law__2328 : decode cL_law_ 2328 = .ok (.iconst 0, 1) := by decide +kernel
theorem dL_law__2329 : decode cL_law_ 2329 = .ok (.ireturn, 1) := by decide +kernel
theorem dL_law__2330 : decode cL_law_ 2330 = .ok (.goto 79, 3) := by decide +kernel
theorem dL_law__2333 : decode cL_law_ 2333 = .ok (.aload_n 1, 1) := by decide +kernel
theorem dL_law__2334 : decode cL_law_ 2334 = .ok (.invokevirtual 233, 3) := by decide +kernel
theorem dL_law__2337 : decode cL_law_ 2337 = .ok (.aload_n 2, 1) := by decide +kernel
theorem dL_law__2338 : decode cL_law_ 2338 = .ok (.invokevirtual 236, 3) := by decide +kernel
theorem dL_law__2341 : decode cL_law_ 2341 = .ok (.if_icmp .eq 68, 3) := by decide +kernel
theorem dL_law__2344 : decode cL_law_ 2344 = .ok (.iconst 0, 1) := by decide +kernel
theorem dL_law__2345 : decode cL_law_ 2345 = .ok (.ireturn, 1) := by decide +kernel
theorem dL_law__2346 : decode cL_law_ 2346 = .ok (.aload_n 1, 1) := by decide +kernel
theorem dL_law__2347 : decode cL_law_ 2347 = .ok (.invokevirtual 237, 3) := by decide +kernel
theorem dL_law__2350 : decode cL_law_ 2350 = .ok (.aload_n 2, 1) := by decide +kernel
theorem dL_law__2351 : decode cL_law_ 2351 = .ok (.invokevirtual 240, 3) := by decide +kernel
theorem dL_law__2354 : decode cL_law_ 2354 = .ok (.if_icmp .eq 55, 3) := by decide +kernel
theorem dL_law__2357 : decode cL_law_ 2357 = .ok (.iconst 0, 1) := by decide +kernel
theorem dL_law__2358 : decode cL_law_ 2358 = .ok (.ireturn, 1) := by decide +kernel
theorem dL_law__2359 : decode cL_law_ 2359 = .ok (.aload_n 1, 1) := by decide +kernel
theorem dL_law__2360 : decode cL_law_ 2360 = .ok (.aload_n 0, 1) := by decide +kernel
theorem dL_law__2361 : decode cL_law_ 2361 = .ok (.iload 4, 2) := by decide +kernel
theorem dL_law__2363 : decode cL_law_ 2363 = .ok (.iconst 1, 1) := by decide +kernel
theorem dL_law__2364 : decode cL_law_ 2364 = .ok (.iadd, 1) := by decide +kernel
theorem dL_law__2365 : decode cL_law_ 2365 = .ok (.iaload, 1) := by decide +kernel
theorem dL_law__2366 : decode cL_law_ 2366 = .ok (.invokevirtual 241, 3) := by decide +kernel
theorem dL_law__2369 : decode cL_law_ 2369 = .ok (.aload_n 2, 1) := by decide +kernel
theorem dL_law__2370 : decode cL_law_ 2370 = .ok (.aload_n 0, 1) := by decide +kernel
theorem dL_law__2371 : decode cL_law_ 2371 = .ok (.iload 4, 2) := by decide +kernel
theorem dL_law__2373 : decode cL_law_ 2373 = .ok (.iconst 1, 1) := by decide +kernel
theorem dL_law__2374 : decode cL_law_ 2374 = .ok (.iadd, 1) := by decide +kernel
theorem dL_law__2375 : decode cL_law_ 2375 = .ok (.iaload, 1) := by decide +kernel
theorem dL_law__2376 : decode cL_law_ 2376 = .ok (.invokevirtual 244, 3) := by decide +kernel
theorem dL_law__2379 : decode cL_law_ 2379 = .ok (.if_icmp .eq 30, 3) := by decide +kernel
theorem dL_law__2382 : decode cL_law_ 2382 = .ok (.iconst 0, 1) := by decide +kernel
theorem dL_law__2383 : decode cL_law_ 2383 = .ok (.ireturn, 1) := by decide +kernel
theorem dL_law__2384 : decode cL_law_ 2384 = .ok (.aload_n 1, 1) := by decide +kernel
theorem dL_law__2385 : decode cL_law_ 2385 = .ok (.aload_n 0, 1) := by decide +kernel
theorem dL_law__2386 : decode cL_law_ 2386 = .ok (.iload 4, 2) := by decide +kernel
theorem dL_law__2388 : decode cL_law_ 2388 = .ok (.iconst 1, 1) := by decide +kernel
theorem dL_law__2389 : decode cL_law_ 2389 = .ok (.iadd, 1) := by decide +kernel
theorem dL_law__2390 : decode cL_law_ 2390 = .ok (.iaload, 1) := by decide +kernel
theorem dL_law__2391 : decode cL_law_ 2391 = .ok (.invokevirtual 245, 3) := by decide +kernel
theorem dL_law__2394 : decode cL_law_ 2394 = .ok (.aload_n 2, 1) := by decide +kernel
theorem dL_law__2395 : decode cL_law_ 2395 = .ok (.aload_n 0, 1) := by decide +kernel
theorem dL_law__2396 : decode cL_law_ 2396 = .ok (.iload 4, 2) := by decide +kernel
theorem dL_law__2398 : decode cL_law_ 2398 = .ok (.iconst 1, 1) := by decide +kernel
theorem dL_law__2399 : decode cL_law_ 2399 = .ok (.iadd, 1) := by decide +kernel
theorem dL_law__2400 : decode cL_law_ 2400 = .ok (.iaload, 1) := by decide +kernel
theorem dL_law__2401 : decode cL_law_ 2401 = .ok (.invokevirtual 248, 3) := by decide +kernel
theorem dL_law__2404 : decode cL_law_ 2404 = .ok (.if_icmp .eq 5, 3) := by decide +kernel
theorem dL_law__2407 : decode cL_law_ 2407 = .ok (.iconst 0, 1) := by decide +kernel
theorem dL_law__2408 : decode cL_law_ 2408 = .ok (.ireturn, 1) := by decide +kernel
theorem dL_law__2409 : decode cL_law_ 2409 = .ok (.iinc 4 9, 3) := by decide +kernel
theorem dL_law__2412 : decode cL_law_ 2412 = .ok (.goto (-2389), 3) := by decide +kernel
theorem dL_law__2415 : decode cL_law_ 2415 = .ok (.iconst 1, 1) := by decide +kernel
theorem dL_law__2416 : decode cL_law_ 2416 = .ok (.ireturn, 1) := by decide +kernel
