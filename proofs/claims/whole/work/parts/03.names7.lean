theorem dL_law_1893 : decode cL_law 1893 = .ok (.aload_n 2, 1) := by decide +kernel
theorem dL_law_1894 : decode cL_law 1894 = .ok (.invokevirtual 161, 3) := by decide +kernel
theorem dL_law_1897 : decode cL_law 1897 = .ok (.iload 6, 2) := by decide +kernel
theorem dL_law_1899 : decode cL_law 1899 = .ok (.if_icmp .eq 5, 3) := by decide +kernel
theorem dL_law_1902 : decode cL_law 1902 = .ok (.iconst 0, 1) := by decide +kernel
theorem dL_law_1903 : decode cL_law 1903 = .ok (.ireturn, 1) := by decide +kernel
theorem dL_law_1904 : decode cL_law 1904 = .ok (.iload 6, 2) := by decide +kernel
theorem dL_law_1906 : decode cL_law 1906 = .ok (.ifCond .ne 15, 3) := by decide +kernel
theorem dL_law_1909 : decode cL_law 1909 = .ok (.aload_n 3, 1) := by decide +kernel
theorem dL_law_1910 : decode cL_law 1910 = .ok (.iconst 0, 1) := by decide +kernel
theorem dL_law_1911 : decode cL_law 1911 = .ok (.laload, 1) := by decide +kernel
theorem dL_law_1912 : decode cL_law 1912 = .ok (.iload 7, 2) := by decide +kernel
theorem dL_law_1914 : decode cL_law 1914 = .ok (.i2l, 1) := by decide +kernel
theorem dL_law_1915 : decode cL_law 1915 = .ok (.lcmp, 1) := by decide +kernel
theorem dL_law_1916 : decode cL_law 1916 = .ok (.ifCond .eq 5, 3) := by decide +kernel
theorem dL_law_1919 : decode cL_law 1919 = .ok (.iconst 0, 1) := by decide +kernel
theorem dL_law_1920 : decode cL_law 1920 = .ok (.ireturn, 1) := by decide +kernel
theorem dL_law_1921 : decode cL_law 1921 = .ok (.goto 1382, 3) := by decide +kernel
theorem dL_law_1924 : decode cL_law 1924 = .ok (.aload_n 1, 1) := by decide +kernel
theorem dL_law_1925 : decode cL_law 1925 = .ok (.aload_n 0, 1) := by decide +kernel
theorem dL_law_1926 : decode cL_law 1926 = .ok (.iload 5, 2) := by decide +kernel
theorem dL_law_1928 : decode cL_law 1928 = .ok (.iconst 1, 1) := by decide +kernel
theorem dL_law_1929 : decode cL_law 1929 = .ok (.iadd, 1) := by decide +kernel
theorem dL_law_1930 : decode cL_law 1930 = .ok (.iaload, 1) := by decide +kernel
theorem dL_law_1931 : decode cL_law 1931 = .ok (.aload_n 0, 1) := by decide +kernel
theorem dL_law_1932 : decode cL_law 1932 = .ok (.iload 5, 2) := by decide +kernel
theorem dL_law_1934 : decode cL_law 1934 = .ok (.iconst 2, 1) := by decide +kernel
theorem dL_law_1935 : decode cL_law 1935 = .ok (.iadd, 1) := by decide +kernel
theorem dL_law_1936 : decode cL_law 1936 = .ok (.iaload, 1) := by decide +kernel
theorem dL_law_1937 : decode cL_law 1937 = .ok (.aload_n 3, 1) := by decide +kernel
theorem dL_law_1938 : decode cL_law 1938 = .ok (.invokestatic 237, 3) := by decide +kernel
theorem dL_law_1941 : decode cL_law 1941 = .ok (.istore 6, 2) := by decide +kernel
theorem dL_law_1943 : decode cL_law 1943 = .ok (.aload_n 2, 1) := by decide +kernel
theorem dL_law_1944 : decode cL_law 1944 = .ok (.aload_n 0, 1) := by decide +kernel
theorem dL_law_1945 : decode cL_law 1945 = .ok (.iload 5, 2) := by decide +kernel
theorem dL_law_1947 : decode cL_law 1947 = .ok (.iconst 1, 1) := by decide +kernel
theorem dL_law_1948 : decode cL_law 1948 = .ok (.iadd, 1) := by decide +kernel
theorem dL_law_1949 : decode cL_law 1949 = .ok (.iaload, 1) := by decide +kernel
theorem dL_law_1950 : decode cL_law 1950 = .ok (.aload_n 0, 1) := by decide +kernel
theorem dL_law_1951 : decode cL_law 1951 = .ok (.iload 5, 2) := by decide +kernel
theorem dL_law_1953 : decode cL_law 1953 = .ok (.iconst 2, 1) := by decide +kernel
theorem dL_law_1954 : decode cL_law 1954 = .ok (.iadd, 1) := by decide +kernel
theorem dL_law_1955 : decode cL_law 1955 = .ok (.iaload, 1) := by decide +kernel
theorem dL_law_1956 : decode cL_law 1956 = .ok (.invokevirtual 239, 3) := by decide +kernel
theorem dL_law_1959 : decode cL_law 1959 = .ok (.istore 7, 2) := by decide +kernel
theorem dL_law_1961 : decode cL_law 1961 = .ok (.aload_n 2, 1) := by decide +kernel
theorem dL_law_1962 : decode cL_law 1962 = .ok (.invokevirtual 161, 3) := by decide +kernel
theorem dL_law_1965 : decode cL_law 1965 = .ok (.iload 6, 2) := by decide +kernel
theorem dL_law_1967 : decode cL_law 1967 = .ok (.if_icmp .eq 5, 3) := by decide +kernel
theorem dL_law_1970 : decode cL_law 1970 = .ok (.iconst 0, 1) := by decide +kernel
theorem dL_law_1971 : decode cL_law 1971 = .ok (.ireturn, 1) := by decide +kernel
theorem dL_law_1972 : decode cL_law 1972 = .ok (.iload 6, 2) := by decide +kernel
theorem dL_law_1974 : decode cL_law 1974 = .ok (.ifCond .ne 15, 3) := by decide +kernel
theorem dL_law_1977 : decode cL_law 1977 = .ok (.aload_n 3, 1) := by decide +kernel
theorem dL_law_1978 : decode cL_law 1978 = .ok (.iconst 0, 1) := by decide +kernel
theorem dL_law_1979 : decode cL_law 1979 = .ok (.laload, 1) := by decide +kernel
theorem dL_law_1980 : decode cL_law 1980 = .ok (.iload 7, 2) := by decide +kernel
theorem dL_law_1982 : decode cL_law 1982 = .ok (.i2l, 1) := by decide +kernel
theorem dL_law_1983 : decode cL_law 1983 = .ok (.lcmp, 1) := by decide +kernel
theorem dL_law_1984 : decode cL_law 1984 = .ok (.ifCond .eq 5, 3) := by decide +kernel
theorem dL_law_1987 : decode cL_law 1987 = .ok (.iconst 0, 1) := by decide +kernel
theorem dL_law_1988 : decode cL_law 1988 = .ok (.ireturn, 1) := by decide +kernel
theorem dL_law_1989 : decode cL_law 1989 = .ok (.goto 1314, 3) := by decide +kernel
theorem dL_law_1992 : decode cL_law 1992 = .ok (.aload_n 1, 1) := by decide +kernel
theorem dL_law_1993 : decode cL_law 1993 = .ok (.aload_n 0, 1) := by decide +kernel
theorem dL_law_1994 : decode cL_law 1994 = .ok (.iload 5, 2) := by decide +kernel
theorem dL_law_1996 : decode cL_law 1996 = .ok (.iconst 1, 1) := by decide +kernel
theorem dL_law_1997 : decode cL_law 1997 = .ok (.iadd, 1) := by decide +kernel
theorem dL_law_1998 : decode cL_law 1998 = .ok (.iaload, 1) := by decide +kernel
theorem dL_law_1999 : decode cL_law 1999 = .ok (.aload_n 0, 1) := by decide +kernel
theorem dL_law_2000 : decode cL_law 2000 = .ok (.iload 5, 2) := by decide +kernel
theorem dL_law_2002 : decode cL_law 2002 = .ok (.iconst 2, 1) := by decide +kernel
theorem dL_law_2003 : decode cL_law 2003 = .ok (.iadd, 1) := by decide +kernel
theorem dL_law_2004 : decode cL_law 2004 = .ok (.iaload, 1) := by decide +kernel
theorem dL_law_2005 : decode cL_law 2005 = .ok (.aload_n 3, 1) := by decide +kernel
theorem dL_law_2006 : decode cL_law 2006 = .ok (.invokestatic 240, 3) := by decide +kernel
theorem dL_law_2009 : decode cL_law 2009 = .ok (.istore 6, 2) := by decide +kernel
theorem dL_law_2011 : decode cL_law 2011 = .ok (.aload_n 2, 1) := by decide +kernel
theorem dL_law_2012 : decode cL_law 2012 = .ok (.aload_n 0, 1) := by decide +kernel
theorem dL_law_2013 : decode cL_law 2013 = .ok (.iload 5, 2) := by decide +kernel
theorem dL_law_2015 : decode cL_law 2015 = .ok (.iconst 1, 1) := by decide +kernel
theorem dL_law_2016 : decode cL_law 2016 = .ok (.iadd, 1) := by decide +kernel
theorem dL_law_2017 : decode cL_law 2017 = .ok (.iaload, 1) := by decide +kernel
theorem dL_law_2018 : decode cL_law 2018 = .ok (.aload_n 0, 1) := by decide +kernel
theorem dL_law_2019 : decode cL_law 2019 = .ok (.iload 5, 2) := by decide +kernel
theorem dL_law_2021 : decode cL_law 2021 = .ok (.iconst 2, 1) := by decide +kernel
theorem dL_law_2022 : decode cL_law 2022 = .ok (.iadd, 1) := by decide +kernel
theorem dL_law_2023 : decode cL_law 2023 = .ok (.iaload, 1) := by decide +kernel
theorem dL_law_2024 : decode cL_law 2024 = .ok (.invokevirtual 242, 3) := by decide +kernel
theorem dL_law_2027 : decode cL_law 2027 = .ok (.istore 7, 2) := by decide +kernel
theorem dL_law_2029 : decode cL_law 2029 = .ok (.aload_n 2, 1) := by decide +kernel
theorem dL_law_2030 : decode cL_law 2030 = .ok (.invokevirtual 161, 3) := by decide +kernel
theorem dL_law_2033 : decode cL_law 2033 = .ok (.iload 6, 2) := by decide +kernel
theorem dL_law_2035 : decode cL_law 2035 = .ok (.if_icmp .eq 5, 3) := by decide +kernel
theorem dL_law_2038 : decode cL_law 2038 = .ok (.iconst 0, 1) := by decide +kernel
theorem dL_law_2039 : decode cL_law 2039 = .ok (.ireturn, 1) := by decide +kernel
theorem dL_law_2040 : decode cL_law 2040 = .ok (.iload 6, 2) := by decide +kernel
theorem dL_law_2042 : decode cL_law 2042 = .ok (.ifCond .ne 22, 3) := by decide +kernel
theorem dL_law_2045 : decode cL_law 2045 = .ok (.aload_n 3, 1) := by decide +kernel
theorem dL_law_2046 : decode cL_law 2046 = .ok (.iconst 0, 1) := by decide +kernel
theorem dL_law_2047 : decode cL_law 2047 = .ok (.laload, 1) := by decide +kernel
theorem dL_law_2048 : decode cL_law 2048 = .ok (.iload 7, 2) := by decide +kernel
theorem dL_law_2050 : decode cL_law 2050 = .ok (.ifCond .eq 7, 3) := by decide +kernel
theorem dL_law_2053 : decode cL_law 2053 = .ok (.lconst 1, 1) := by decide +kernel
theorem dL_law_2054 : decode cL_law 2054 = .ok (.goto 4, 3) := by decide +kernel
theorem dL_law_2057 : decode cL_law 2057 = .ok (.lconst 0, 1) := by decide +kernel
theorem dL_law_2058 : decode cL_law 2058 = .ok (.lcmp, 1) := by decide +kernel
theorem dL_law_2059 : decode cL_law 2059 = .ok (.ifCond .eq 5, 3) := by decide +kernel
theorem dL_law_2062 : decode cL_law 2062 = .ok (.iconst 0, 1) := by decide +kernel
theorem dL_law_2063 : decode cL_law 2063 = .ok (.ireturn, 1) := by decide +kernel
theorem dL_law_2064 : decode cL_law 2064 = .ok (.goto 1239, 3) := by decide +kernel
theorem dL_law_2067 : decode cL_law 2067 = .ok (.aload_n 1, 1) := by decide +kernel
theorem dL_law_2068 : decode cL_law 2068 = .ok (.aload_n 0, 1) := by decide +kernel
theorem dL_law_2069 : decode cL_law 2069 = .ok (.iload 5, 2) := by decide +kernel
theorem dL_law_2071 : decode cL_law 2071 = .ok (.iconst 1, 1) := by decide +kernel
theorem dL_law_2072 : decode cL_law 2072 = .ok (.iadd, 1) := by decide +kernel
theorem dL_law_2073 : decode cL_law 2073 = .ok (.iaload, 1) := by decide +kernel
theorem dL_law_2074 : decode cL_law 2074 = .ok (.aload_n 0, 1) := by decide +kernel
theorem dL_law_2075 : decode cL_law 2075 = .ok (.iload 5, 2) := by decide +kernel
theorem dL_law_2077 : decode cL_law 2077 = .ok (.iconst 2, 1) := by decide +kernel
theorem dL_law_2078 : decode cL_law 2078 = .ok (.iadd, 1) := by decide +kernel
theorem dL_law_2079 : decode cL_law 2079 = .ok (.iaload, 1) := by decide +kernel
theorem dL_law_2080 : decode cL_law 2080 = .ok (.aload_n 0, 1) := by decide +kernel
theorem dL_law_2081 : decode cL_law 2081 = .ok (.iload 5, 2) := by decide +kernel
theorem dL_law_2083 : decode cL_law 2083 = .ok (.iconst 3, 1) := by decide +kernel
theorem dL_law_2084 : decode cL_law 2084 = .ok (.iadd, 1) := by decide +kernel
theorem dL_law_2085 : decode cL_law 2085 = .ok (.iaload, 1) := by decide +kernel
theorem dL_law_2086 : decode cL_law 2086 = .ok (.aload_n 0, 1) := by decide +kernel
theorem dL_law_2087 : decode cL_law 2087 = .ok (.iload 5, 2) := by decide +kernel
theorem dL_law_2089 : decode cL_law 2089 = .ok (.iconst 4, 1) := by decide +kernel
theorem dL_law_2090 : decode cL_law 2090 = .ok (.iadd, 1) := by decide +kernel
theorem dL_law_2091 : decode cL_law 2091 = .ok (.iaload, 1) := by decide +kernel
theorem dL_law_2092 : decode cL_law 2092 = .ok (.aload_n 3, 1) := by decide +kernel
theorem dL_law_2093 : decode cL_law 2093 = .ok (.invokestatic 243, 3) := by decide +kernel
theorem dL_law_2096 : decode cL_law 2096 = .ok (.istore 6, 2) := by decide +kernel
theorem dL_law_2098 : decode cL_law 2098 = .ok (.aload_n 2, 1) := by decide +kernel
theorem dL_law_2099 : decode cL_law 2099 = .ok (.aload_n 0, 1) := by decide +kernel
theorem dL_law_2100 : decode cL_law 2100 = .ok (.iload 5, 2) := by decide +kernel
theorem dL_law_2102 : decode cL_law 2102 = .ok (.iconst 1, 1) := by decide +kernel
theorem dL_law_2103 : decode cL_law 2103 = .ok (.iadd, 1) := by decide +kernel
theorem dL_law_2104 : decode cL_law 2104 = .ok (.iaload, 1) := by decide +kernel
theorem dL_law_2105 : decode cL_law 2105 = .ok (.aload_n 0, 1) := by decide +kernel
theorem dL_law_2106 : decode cL_law 2106 = .ok (.iload 5, 2) := by decide +kernel
theorem dL_law_2108 : decode cL_law 2108 = .ok (.iconst 2, 1) := by decide +kernel
theorem dL_law_2109 : decode cL_law 2109 = .ok (.iadd, 1) := by decide +kernel
theorem dL_law_2110 : decode cL_law 2110 = .ok (.iaload, 1) := by decide +kernel
theorem dL_law_2111 : decode cL_law 2111 = .ok (.aload_n 0, 1) := by decide +kernel
theorem dL_law_2112 : decode cL_law 2112 = .ok (.iload 5, 2) := by decide +kernel
theorem dL_law_2114 : decode cL_law 2114 = .ok (.iconst 3, 1) := by decide +kernel
theorem dL_law_2115 : decode cL_law 2115 = .ok (.iadd, 1) := by decide +kernel
theorem dL_law_2116 : decode cL_law 2116 = .ok (.iaload, 1) := by decide +kernel
theorem dL_law_2117 : decode cL_law 2117 = .ok (.aload_n 0, 1) := by decide +kernel
theorem dL_law_2118 : decode cL_law 2118 = .ok (.iload 5, 2) := by decide +kernel
theorem dL_law_2120 : decode cL_law 2120 = .ok (.iconst 4, 1) := by decide +kernel
theorem dL_law_2121 : decode cL_law 2121 = .ok (.iadd, 1) := by decide +kernel
theorem dL_law_2122 : decode cL_law 2122 = .ok (.iaload, 1) := by decide +kernel
theorem dL_law_2123 : decode cL_law 2123 = .ok (.invokevirtual 245, 3) := by decide +kernel
theorem dL_law_2126 : decode cL_law 2126 = .ok (.istore 7, 2) := by decide +kernel
theorem dL_law_2128 : decode cL_law 2128 = .ok (.aload_n 2, 1) := by decide +kernel
theorem dL_law_2129 : decode cL_law 2129 = .ok (.invokevirtual 161, 3) := by decide +kernel
theorem dL_law_2132 : decode cL_law 2132 = .ok (.iload 6, 2) := by decide +kernel
theorem dL_law_2134 : decode cL_law 2134 = .ok (.if_icmp .eq 5, 3) := by decide +kernel
theorem dL_law_2137 : decode cL_law 2137 = .ok (.iconst 0, 1) := by decide +kernel
theorem dL_law_2138 : decode cL_law 2138 = .ok (.ireturn, 1) := by decide +kernel
theorem dL_law_2139 : decode cL_law 2139 = .ok (.iload 6, 2) := by decide +kernel
theorem dL_law_2141 : decode cL_law 2141 = .ok (.ifCond .ne 15, 3) := by decide +kernel
theorem dL_law_2144 : decode cL_law 2144 = .ok (.aload_n 3, 1) := by decide +kernel
theorem dL_law_2145 : decode cL_law 2145 = .ok (.iconst 0, 1) := by decide +kernel
theorem dL_law_2146 : decode cL_law 2146 = .ok (.laload, 1) := by decide +kernel
theorem dL_law_2147 : decode cL_law 2147 = .ok (.iload 7, 2) := by decide +kernel
theorem dL_law_2149 : decode cL_law 2149 = .ok (.i2l, 1) := by decide +kernel
theorem dL_law_2150 : decode cL_law 2150 = .ok (.lcmp, 1) := by decide +kernel
theorem dL_law_2151 : decode cL_law 2151 = .ok (.ifCond .eq 5, 3) := by decide +kernel
theorem dL_law_2154 : decode cL_law 2154 = .ok (.iconst 0, 1) := by decide +kernel
theorem dL_law_2155 : decode cL_law 2155 = .ok (.ireturn, 1) := by decide +kernel
theorem dL_law_2156 : decode cL_law 2156 = .ok (.goto 1147, 3) := by decide +kernel
theorem dL_law_2159 : decode cL_law 2159 = .ok (.aload_n 1, 1) := by decide +kernel
theorem dL_law_2160 : decode cL_law 2160 = .ok (.aload_n 0, 1) := by decide +kernel
theorem dL_law_2161 : decode cL_law 2161 = .ok (.iload 5, 2) := by decide +kernel
theorem dL_law_2163 : decode cL_law 2163 = .ok (.iconst 1, 1) := by decide +kernel
theorem dL_law_2164 : decode cL_law 2164 = .ok (.iadd, 1) := by decide +kernel
theorem dL_law_2165 : decode cL_law 2165 = .ok (.iaload, 1) := by decide +kernel
theorem dL_law_2166 : decode cL_law 2166 = .ok (.aload_n 0, 1) := by decide +kernel
theorem dL_law_2167 : decode cL_law 2167 = .ok (.iload 5, 2) := by decide +kernel
theorem dL_law_2169 : decode cL_law 2169 = .ok (.iconst 2, 1) := by decide +kernel
theorem dL_law_2170 : decode cL_law 2170 = .ok (.iadd, 1) := by decide +kernel
theorem dL_law_2171 : decode cL_law 2171 = .ok (.iaload, 1) := by decide +kernel
theorem dL_law_2172 : decode cL_law 2172 = .ok (.aload_n 3, 1) := by decide +kernel
theorem dL_law_2173 : decode cL_law 2173 = .ok (.invokestatic 246, 3) := by decide +kernel
theorem dL_law_2176 : decode cL_law 2176 = .ok (.istore 6, 2) := by decide +kernel
theorem dL_law_2178 : decode cL_law 2178 = .ok (.aload_n 2, 1) := by decide +kernel
theorem dL_law_2179 : decode cL_law 2179 = .ok (.aload_n 0, 1) := by decide +kernel
theorem dL_law_2180 : decode cL_law 2180 = .ok (.iload 5, 2) := by decide +kernel
theorem dL_law_2182 : decode cL_law 2182 = .ok (.iconst 1, 1) := by decide +kernel
theorem dL_law_2183 : decode cL_law 2183 = .ok (.iadd, 1) := by decide +kernel
theorem dL_law_2184 : decode cL_law 2184 = .ok (.iaload, 1) := by decide +kernel
theorem dL_law_2185 : decode cL_law 2185 = .ok (.aload_n 0, 1) := by decide +kernel
theorem dL_law_2186 : decode cL_law 2186 = .ok (.iload 5, 2) := by decide +kernel
theorem dL_law_2188 : decode cL_law 2188 = .ok (.iconst 2, 1) := by decide +kernel
theorem dL_law_2189 : decode cL_law 2189 = .ok (.iadd, 1) := by decide +kernel
theorem dL_law_2190 : decode cL_law 2190 = .ok (.iaload, 1) := by decide +kernel
theorem dL_law_2191 : decode cL_law 2191 = .ok (.invokevirtual 248, 3) := by decide +kernel
theorem dL_law_2194 : decode cL_law 2194 = .ok (.istore 7, 2) := by decide +kernel
theorem dL_law_2196 : decode cL_law 2196 = .ok (.aload_n 2, 1) := by decide +kernel
theorem dL_law_2197 : decode cL_law 2197 = .ok (.invokevirtual 161, 3) := by decide +kernel
theorem dL_law_2200 : decode cL_law 2200 = .ok (.iload 6, 2) := by decide +kernel
theorem dL_law_2202 : decode cL_law 2202 = .ok (.if_icmp .eq 5, 3) := by decide +kernel
theorem dL_law_2205 : decode cL_law 2205 = .ok (.iconst 0, 1) := by decide +kernel
theorem dL_law_2206 : decode cL_law 2206 = .ok (.ireturn, 1) := by decide +kernel
theorem dL_law_2207 : decode cL_law 2207 = .ok (.iload 6, 2) := by decide +kernel
theorem dL_law_2209 : decode cL_law 2209 = .ok (.ifCond .ne 15, 3) := by decide +kernel
theorem dL_law_2212 : decode cL_law 2212 = .ok (.aload_n 3, 1) := by decide +kernel
theorem dL_law_2213 : decode cL_law 2213 = .ok (.iconst 0, 1) := by decide +kernel
theorem dL_law_2214 : decode cL_law 2214 = .ok (.laload, 1) := by decide +kernel
theorem dL_law_2215 : decode cL_law 2215 = .ok (.iload 7, 2) := by decide +kernel
theorem dL_law_2217 : decode cL_law 2217 = .ok (.i2l, 1) := by decide +kernel
theorem dL_law_2218 : decode cL_law 2218 = .ok (.lcmp, 1) := by decide +kernel
theorem dL_law_2219 : decode cL_law 2219 = .ok (.ifCond .eq 5, 3) := by decide +kernel
theorem dL_law_2222 : decode cL_law 2222 = .ok (.iconst 0, 1) := by decide +kernel
theorem dL_law_2223 : decode cL_law 2223 = .ok (.ireturn, 1) := by decide +kernel
theorem dL_law_2224 : decode cL_law 2224 = .ok (.goto 1079, 3) := by decide +kernel
theorem dL_law_2227 : decode cL_law 2227 = .ok (.aload_n 1, 1) := by decide +kernel
theorem dL_law_2228 : decode cL_law 2228 = .ok (.aload_n 0, 1) := by decide +kernel
theorem dL_law_2229 : decode cL_law 2229 = .ok (.iload 5, 2) := by decide +kernel
theorem dL_law_2231 : decode cL_law 2231 = .ok (.iconst 1, 1) := by decide +kernel
theorem dL_law_2232 : decode cL_law 2232 = .ok (.iadd, 1) := by decide +kernel
theorem dL_law_2233 : decode cL_law 2233 = .ok (.iaload, 1) := by decide +kernel
theorem dL_law_2234 : decode cL_law 2234 = .ok (.aload_n 3, 1) := by decide +kernel
theorem dL_law_2235 : decode cL_law 2235 = .ok (.invokestatic 249, 3) := by decide +kernel
theorem dL_law_2238 : decode cL_law 2238 = .ok (.istore 6, 2) := by decide +kernel
theorem dL_law_2240 : decode cL_law 2240 = .ok (.aload_n 2, 1) := by decide +kernel
theorem dL_law_2241 : decode cL_law 2241 = .ok (.aload_n 0, 1) := by decide +kernel
theorem dL_law_2242 : decode cL_law 2242 = .ok (.iload 5, 2) := by decide +kernel
theorem dL_law_2244 : decode cL_law 2244 = .ok (.iconst 1, 1) := by decide +kernel
theorem dL_law_2245 : decode cL_law 2245 = .ok (.iadd, 1) := by decide +kernel
theorem dL_law_2246 : decode cL_law 2246 = .ok (.iaload, 1) := by decide +kernel
theorem dL_law_2247 : decode cL_law 2247 = .ok (.invokevirtual 251, 3) := by decide +kernel
theorem dL_law_2250 : decode cL_law 2250 = .ok (.istore 7, 2) := by decide +kernel
theorem dL_law_2252 : decode cL_law 2252 = .ok (.aload_n 2, 1) := by decide +kernel
theorem dL_law_2253 : decode cL_law 2253 = .ok (.invokevirtual 161, 3) := by decide +kernel
theorem dL_law_2256 : decode cL_law 2256 = .ok (.iload 6, 2) := by decide +kernel
theorem dL_law_2258 : decode cL_law 2258 = .ok (.if_icmp .eq 5, 3) := by decide +kernel
theorem dL_law_2261 : decode cL_law 2261 = .ok (.iconst 0, 1) := by decide +kernel
theorem dL_law_2262 : decode cL_law 2262 = .ok (.ireturn, 1) := by decide +kernel
theorem dL_law_2263 : decode cL_law 2263 = .ok (.iload 6, 2) := by decide +kernel
theorem dL_law_2265 : decode cL_law 2265 = .ok (.ifCond .ne 15, 3) := by decide +kernel
theorem dL_law_2268 : decode cL_law 2268 = .ok (.aload_n 3, 1) := by decide +kernel
theorem dL_law_2269 : decode cL_law 2269 = .ok (.iconst 0, 1) := by decide +kernel
theorem dL_law_2270 : decode cL_law 2270 = .ok (.laload, 1) := by decide +kernel
theorem dL_law_2271 : decode cL_law 2271 = .ok (.iload 7, 2) := by decide +kernel
theorem dL_law_2273 : decode cL_law 2273 = .ok (.i2l, 1) := by decide +kernel
theorem dL_law_2274 : decode cL_law 2274 = .ok (.lcmp, 1) := by decide +kernel
theorem dL_law_2275 : decode cL_law 2275 = .ok (.ifCond .eq 5, 3) := by decide +kernel
theorem dL_law_2278 : decode cL_law 2278 = .ok (.iconst 0, 1) := by decide +kernel
theorem dL_law_2279 : decode cL_law 2279 = .ok (.ireturn, 1) := by decide +kernel
theorem dL_law_2280 : decode cL_law 2280 = .ok (.goto 1023, 3) := by decide +kernel
theorem dL_law_2283 : decode cL_law 2283 = .ok (.aload_n 1, 1) := by decide +kernel
theorem dL_law_2284 : decode cL_law 2284 = .ok (.aload_n 0, 1) := by decide +kernel
theorem dL_law_2285 : decode cL_law 2285 = .ok (.iload 5, 2) := by decide +kernel
theorem dL_law_2287 : decode cL_law 2287 = .ok (.iconst 1, 1) := by decide +kernel
theorem dL_law_2288 : decode cL_law 2288 = .ok (.iadd, 1) := by decide +kernel
theorem dL_law_2289 : decode cL_law 2289 = .ok (.iaload, 1) := by decide +kernel
theorem dL_law_2290 : decode cL_law 2290 = .ok (.aload_n 3, 1) := by decide +kernel
theorem dL_law_2291 : decode cL_law 2291 = .ok (.invokestatic 252, 3) := by decide +kernel
theorem dL_law_2294 : decode cL_law 2294 = .ok (.istore 6, 2) := by decide +kernel
theorem dL_law_2296 : decode cL_law 2296 = .ok (.aload_n 2, 1) := by decide +kernel
theorem dL_law_2297 : decode cL_law 2297 = .ok (.aload_n 0, 1) := by decide +kernel
theorem dL_law_2298 : decode cL_law 2298 = .ok (.iload 5, 2) := by decide +kernel
theorem dL_law_2300 : decode cL_law 2300 = .ok (.iconst 1, 1) := by decide +kernel
theorem dL_law_2301 : decode cL_law 2301 = .ok (.iadd, 1) := by decide +kernel
theorem dL_law_2302 : decode cL_law 2302 = .ok (.iaload, 1) := by decide +kernel
theorem dL_law_2303 : decode cL_law 2303 = .ok (.invokevirtual 254, 3) := by decide +kernel
theorem dL_law_2306 : decode cL_law 2306 = .ok (.istore 7, 2) := by decide +kernel
theorem dL_law_2308 : decode cL_law 2308 = .ok (.aload_n 2, 1) := by decide +kernel
theorem dL_law_2309 : decode cL_law 2309 = .ok (.invokevirtual 161, 3) := by decide +kernel
theorem dL_law_2312 : decode cL_law 2312 = .ok (.iload 6, 2) := by decide +kernel
theorem dL_law_2314 : decode cL_law 2314 = .ok (.if_icmp .eq 5, 3) := by decide +kernel
theorem dL_law_2317 : decode cL_law 2317 = .ok (.iconst 0, 1) := by decide +kernel
theorem dL_law_2318 : decode cL_law 2318 = .ok (.ireturn, 1) := by decide +kernel
theorem dL_law_2319 : decode cL_law 2319 = .ok (.iload 6, 2) := by decide +kernel
theorem dL_law_2321 : decode cL_law 2321 = .ok (.ifCond .ne 15, 3) := by decide +kernel
theorem dL_law_2324 : decode cL_law 2324 = .ok (.aload_n 3, 1) := by decide +kernel
theorem dL_law_2325 : decode cL_law 2325 = .ok (.iconst 0, 1) := by decide +kernel
theorem dL_law_2326 : decode cL_law 2326 = .ok (.laload, 1) := by decide +kernel
theorem dL_law_2327 : decode cL_law 2327 = .ok (.iload 7, 2) := by decide +kernel
theorem dL_law_2329 : decode cL_law 2329 = .ok (.i2l, 1) := by decide +kernel
theorem dL_law_2330 : decode cL_law 2330 = .ok (.lcmp, 1) := by decide +kernel
theorem dL_law_2331 : decode cL_law 2331 = .ok (.ifCond .eq 5, 3) := by decide +kernel
theorem dL_law_2334 : decode cL_law 2334 = .ok (.iconst 0, 1) := by decide +kernel
theorem dL_law_2335 : decode cL_law 2335 = .ok (.ireturn, 1) := by decide +kernel
theorem dL_law_2336 : decode cL_law 2336 = .ok (.goto 967, 3) := by decide +kernel
theorem dL_law_2339 : decode cL_law 2339 = .ok (.aload_n 1, 1) := by decide +kernel
theorem dL_law_2340 : decode cL_law 2340 = .ok (.aload_n 0, 1) := by decide +kernel
theorem dL_law_2341 : decode cL_law 2341 = .ok (.iload 5, 2) := by decide +kernel
theorem dL_law_2343 : decode cL_law 2343 = .ok (.iconst 1, 1) := by decide +kernel
theorem dL_law_2344 : decode cL_law 2344 = .ok (.iadd, 1) := by decide +kernel
theorem dL_law_2345 : decode cL_law 2345 = .ok (.iaload, 1) := by decide +kernel
theorem dL_law_2346 : decode cL_law 2346 = .ok (.aload_n 0, 1) := by decide +kernel
theorem dL_law_2347 : decode cL_law 2347 = .ok (.iload 5, 2) := by decide +kernel
theorem dL_law_2349 : decode cL_law 2349 = .ok (.iconst 2, 1) := by decide +kernel
theorem dL_law_2350 : decode cL_law 2350 = .ok (.iadd, 1) := by decide +kernel
theorem dL_law_2351 : decode cL_law 2351 = .ok (.iaload, 1) := by decide +kernel
theorem dL_law_2352 : decode cL_law 2352 = .ok (.aload_n 0, 1) := by decide +kernel
theorem dL_law_2353 : decode cL_law 2353 = .ok (.iload 5, 2) := by decide +kernel
theorem dL_law_2355 : decode cL_law 2355 = .ok (.iconst 3, 1) := by decide +kernel
theorem dL_law_2356 : decode cL_law 2356 = .ok (.iadd, 1) := by decide +kernel
theorem dL_law_2357 : decode cL_law 2357 = .ok (.iaload, 1) := by decide +kernel
theorem dL_law_2358 : decode cL_law 2358 = .ok (.aload_n 0, 1) := by decide +kernel
theorem dL_law_2359 : decode cL_law 2359 = .ok (.iload 5, 2) := by decide +kernel
theorem dL_law_2361 : decode cL_law 2361 = .ok (.iconst 4, 1) := by decide +kernel
theorem dL_law_2362 : decode cL_law 2362 = .ok (.iadd, 1) := by decide +kernel
theorem dL_law_2363 : decode cL_law 2363 = .ok (.iaload, 1) := by decide +kernel
theorem dL_law_2364 : decode cL_law 2364 = .ok (.aload_n 3, 1) := by decide +kernel
theorem dL_law_2365 : decode cL_law 2365 = .ok (.invokestatic 255, 3) := by decide +kernel
theorem dL_law_2368 : decode cL_law 2368 = .ok (.istore 6, 2) := by decide +kernel
theorem dL_law_2370 : decode cL_law 2370 = .ok (.aload_n 2, 1) := by decide +kernel
theorem dL_law_2371 : decode cL_law 2371 = .ok (.aload_n 0, 1) := by decide +kernel
theorem dL_law_2372 : decode cL_law 2372 = .ok (.iload 5, 2) := by decide +kernel
theorem dL_law_2374 : decode cL_law 2374 = .ok (.iconst 1, 1) := by decide +kernel
theorem dL_law_2375 : decode cL_law 2375 = .ok (.iadd, 1) := by decide +kernel
theorem dL_law_2376 : decode cL_law 2376 = .ok (.iaload, 1) := by decide +kernel
theorem dL_law_2377 : decode cL_law 2377 = .ok (.aload_n 0, 1) := by decide +kernel
theorem dL_law_2378 : decode cL_law 2378 = .ok (.iload 5, 2) := by decide +kernel
theorem dL_law_2380 : decode cL_law 2380 = .ok (.iconst 2, 1) := by decide +kernel
theorem dL_law_2381 : decode cL_law 2381 = .ok (.iadd, 1) := by decide +kernel
theorem dL_law_2382 : decode cL_law 2382 = .ok (.iaload, 1) := by decide +kernel
theorem dL_law_2383 : decode cL_law 2383 = .ok (.aload_n 0, 1) := by decide +kernel
theorem dL_law_2384 : decode cL_law 2384 = .ok (.iload 5, 2) := by decide +kernel
theorem dL_law_2386 : decode cL_law 2386 = .ok (.iconst 3, 1) := by decide +kernel
theorem dL_law_2387 : decode cL_law 2387 = .ok (.iadd, 1) := by decide +kernel
theorem dL_law_2388 : decode cL_law 2388 = .ok (.iaload, 1) := by decide +kernel
theorem dL_law_2389 : decode cL_law 2389 = .ok (.aload_n 0, 1) := by decide +kernel
theorem dL_law_2390 : decode cL_law 2390 = .ok (.iload 5, 2) := by decide +kernel
theorem dL_law_2392 : decode cL_law 2392 = .ok (.iconst 4, 1) := by decide +kernel
theorem dL_law_2393 : decode cL_law 2393 = .ok (.iadd, 1) := by decide +kernel
theorem dL_law_2394 : decode cL_law 2394 = .ok (.iaload, 1) := by decide +kernel
theorem dL_law_2395 : decode cL_law 2395 = .ok (.invokevirtual 257, 3) := by decide +kernel
theorem dL_law_2398 : decode cL_law 2398 = .ok (.istore 7, 2) := by decide +kernel
theorem dL_law_2400 : decode cL_law 2400 = .ok (.aload_n 2, 1) := by decide +kernel
theorem dL_law_2401 : decode cL_law 2401 = .ok (.invokevirtual 161, 3) := by decide +kernel
theorem dL_law_2404 : decode cL_law 2404 = .ok (.iload 6, 2) := by decide +kernel
theorem dL_law_2406 : decode cL_law 2406 = .ok (.if_icmp .eq 5, 3) := by decide +kernel
theorem dL_law_2409 : decode cL_law 2409 = .ok (.iconst 0, 1) := by decide +kernel
theorem dL_law_2410 : decode cL_law 2410 = .ok (.ireturn, 1) := by decide +kernel
theorem dL_law_2411 : decode cL_law 2411 = .ok (.iload 6, 2) := by decide +kernel
theorem dL_law_2413 : decode cL_law 2413 = .ok (.ifCond .ne 15, 3) := by decide +kernel
theorem dL_law_2416 : decode cL_law 2416 = .ok (.aload_n 3, 1) := by decide +kernel
theorem dL_law_2417 : decode cL_law 2417 = .ok (.iconst 0, 1) := by decide +kernel
theorem dL_law_2418 : decode cL_law 2418 = .ok (.laload, 1) := by decide +kernel
theorem dL_law_2419 : decode cL_law 2419 = .ok (.iload 7, 2) := by decide +kernel
theorem dL_law_2421 : decode cL_law 2421 = .ok (.i2l, 1) := by decide +kernel
theorem dL_law_2422 : decode cL_law 2422 = .ok (.lcmp, 1) := by decide +kernel
theorem dL_law_2423 : decode cL_law 2423 = .ok (.ifCond .eq 5, 3) := by decide +kernel
theorem dL_law_2426 : decode cL_law 2426 = .ok (.iconst 0, 1) := by decide +kernel
theorem dL_law_2427 : decode cL_law 2427 = .ok (.ireturn, 1) := by decide +kernel
theorem dL_law_2428 : decode cL_law 2428 = .ok (.goto 875, 3) := by decide +kernel
theorem dL_law_2431 : decode cL_law 2431 = .ok (.aload_n 1, 1) := by decide +kernel
theorem dL_law_2432 : decode cL_law 2432 = .ok (.aload_n 0, 1) := by decide +kernel
theorem dL_law_2433 : decode cL_law 2433 = .ok (.iload 5, 2) := by decide +kernel
theorem dL_law_2435 : decode cL_law 2435 = .ok (.iconst 1, 1) := by decide +kernel
theorem dL_law_2436 : decode cL_law 2436 = .ok (.iadd, 1) := by decide +kernel
theorem dL_law_2437 : decode cL_law 2437 = .ok (.iaload, 1) := by decide +kernel
theorem dL_law_2438 : decode cL_law 2438 = .ok (.aload_n 0, 1) := by decide +kernel
theorem dL_law_2439 : decode cL_law 2439 = .ok (.iload 5, 2) := by decide +kernel
theorem dL_law_2441 : decode cL_law 2441 = .ok (.iconst 2, 1) := by decide +kernel
theorem dL_law_2442 : decode cL_law 2442 = .ok (.iadd, 1) := by decide +kernel
theorem dL_law_2443 : decode cL_law 2443 = .ok (.iaload, 1) := by decide +kernel
theorem dL_law_2444 : decode cL_law 2444 = .ok (.i2l, 1) := by decide +kernel
theorem dL_law_2445 : decode cL_law 2445 = .ok (.bipush 32, 2) := by decide +kernel
theorem dL_law_2447 : decode cL_law 2447 = .ok (.lshl, 1) := by decide +kernel
theorem dL_law_2448 : decode cL_law 2448 = .ok (.aload_n 0, 1) := by decide +kernel
theorem dL_law_2449 : decode cL_law 2449 = .ok (.iload 5, 2) := by decide +kernel
theorem dL_law_2451 : decode cL_law 2451 = .ok (.iconst 3, 1) := by decide +kernel
theorem dL_law_2452 : decode cL_law 2452 = .ok (.iadd, 1) := by decide +kernel
theorem dL_law_2453 : decode cL_law 2453 = .ok (.iaload, 1) := by decide +kernel
theorem dL_law_2454 : decode cL_law 2454 = .ok (.i2l, 1) := by decide +kernel
theorem dL_law_2455 : decode cL_law 2455 = .ok (.ldc2_w 258, 3) := by decide +kernel
theorem dL_law_2458 : decode cL_law 2458 = .ok (.land, 1) := by decide +kernel
theorem dL_law_2459 : decode cL_law 2459 = .ok (.lor, 1) := by decide +kernel
theorem dL_law_2460 : decode cL_law 2460 = .ok (.aload_n 3, 1) := by decide +kernel
theorem dL_law_2461 : decode cL_law 2461 = .ok (.invokestatic 260, 3) := by decide +kernel
theorem dL_law_2464 : decode cL_law 2464 = .ok (.istore 6, 2) := by decide +kernel
theorem dL_law_2466 : decode cL_law 2466 = .ok (.aload_n 2, 1) := by decide +kernel
theorem dL_law_2467 : decode cL_law 2467 = .ok (.aload_n 0, 1) := by decide +kernel
theorem dL_law_2468 : decode cL_law 2468 = .ok (.iload 5, 2) := by decide +kernel
theorem dL_law_2470 : decode cL_law 2470 = .ok (.iconst 1, 1) := by decide +kernel
theorem dL_law_2471 : decode cL_law 2471 = .ok (.iadd, 1) := by decide +kernel
theorem dL_law_2472 : decode cL_law 2472 = .ok (.iaload, 1) := by decide +kernel
theorem dL_law_2473 : decode cL_law 2473 = .ok (.aload_n 0, 1) := by decide +kernel
theorem dL_law_2474 : decode cL_law 2474 = .ok (.iload 5, 2) := by decide +kernel
theorem dL_law_2476 : decode cL_law 2476 = .ok (.iconst 2, 1) := by decide +kernel
theorem dL_law_2477 : decode cL_law 2477 = .ok (.iadd, 1) := by decide +kernel
theorem dL_law_2478 : decode cL_law 2478 = .ok (.iaload, 1) := by decide +kernel
theorem dL_law_2479 : decode cL_law 2479 = .ok (.i2l, 1) := by decide +kernel
theorem dL_law_2480 : decode cL_law 2480 = .ok (.bipush 32, 2) := by decide +kernel
theorem dL_law_2482 : decode cL_law 2482 = .ok (.lshl, 1) := by decide +kernel
theorem dL_law_2483 : decode cL_law 2483 = .ok (.aload_n 0, 1) := by decide +kernel
theorem dL_law_2484 : decode cL_law 2484 = .ok (.iload 5, 2) := by decide +kernel
theorem dL_law_2486 : decode cL_law 2486 = .ok (.iconst 3, 1) := by decide +kernel
theorem dL_law_2487 : decode cL_law 2487 = .ok (.iadd, 1) := by decide +kernel
theorem dL_law_2488 : decode cL_law 2488 = .ok (.iaload, 1) := by decide +kernel
theorem dL_law_2489 : decode cL_law 2489 = .ok (.i2l, 1) := by decide +kernel
theorem dL_law_2490 : decode cL_law 2490 = .ok (.ldc2_w 258, 3) := by decide +kernel
theorem dL_law_2493 : decode cL_law 2493 = .ok (.land, 1) := by decide +kernel
theorem dL_law_2494 : decode cL_law 2494 = .ok (.lor, 1) := by decide +kernel
theorem dL_law_2495 : decode cL_law 2495 = .ok (.invokevirtual 263, 3) := by decide +kernel
theorem dL_law_2498 : decode cL_law 2498 = .ok (.lstore 7, 2) := by decide +kernel
theorem dL_law_2500 : decode cL_law 2500 = .ok (.aload_n 2, 1) := by decide +kernel
theorem dL_law_2501 : decode cL_law 2501 = .ok (.invokevirtual 161, 3) := by decide +kernel
theorem dL_law_2504 : decode cL_law 2504 = .ok (.iload 6, 2) := by decide +kernel
theorem dL_law_2506 : decode cL_law 2506 = .ok (.if_icmp .eq 5, 3) := by decide +kernel
theorem dL_law_2509 : decode cL_law 2509 = .ok (.iconst 0, 1) := by decide +kernel
theorem dL_law_2510 : decode cL_law 2510 = .ok (.ireturn, 1) := by decide +kernel
theorem dL_law_2511 : decode cL_law 2511 = .ok (.iload 6, 2) := by decide +kernel
theorem dL_law_2513 : decode cL_law 2513 = .ok (.ifCond .ne 14, 3) := by decide +kernel
theorem dL_law_2516 : decode cL_law 2516 = .ok (.aload_n 3, 1) := by decide +kernel
theorem dL_law_2517 : decode cL_law 2517 = .ok (.iconst 0, 1) := by decide +kernel
theorem dL_law_2518 : decode cL_law 2518 = .ok (.laload, 1) := by decide +kernel
theorem dL_law_2519 : decode cL_law 2519 = .ok (.lload 7, 2) := by decide +kernel
theorem dL_law_2521 : decode cL_law 2521 = .ok (.lcmp, 1) := by decide +kernel
theorem dL_law_2522 : decode cL_law 2522 = .ok (.ifCond .eq 5, 3) := by decide +kernel
theorem dL_law_2525 : decode cL_law 2525 = .ok (.iconst 0, 1) := by decide +kernel
theorem dL_law_2526 : decode cL_law 2526 = .ok (.ireturn, 1) := by decide +kernel
theorem dL_law_2527 : decode cL_law 2527 = .ok (.goto 776, 3) := by decide +kernel
theorem dL_law_2530 : decode cL_law 2530 = .ok (.aload_n 1, 1) := by decide +kernel
theorem dL_law_2531 : decode cL_law 2531 = .ok (.aload_n 0, 1) := by decide +kernel
theorem dL_law_2532 : decode cL_law 2532 = .ok (.iload 5, 2) := by decide +kernel
theorem dL_law_2534 : decode cL_law 2534 = .ok (.iconst 1, 1) := by decide +kernel
theorem dL_law_2535 : decode cL_law 2535 = .ok (.iadd, 1) := by decide +kernel
theorem dL_law_2536 : decode cL_law 2536 = .ok (.iaload, 1) := by decide +kernel
theorem dL_law_2537 : decode cL_law 2537 = .ok (.aload_n 0, 1) := by decide +kernel
theorem dL_law_2538 : decode cL_law 2538 = .ok (.iload 5, 2) := by decide +kernel
theorem dL_law_2540 : decode cL_law 2540 = .ok (.iconst 2, 1) := by decide +kernel
theorem dL_law_2541 : decode cL_law 2541 = .ok (.iadd, 1) := by decide +kernel
theorem dL_law_2542 : decode cL_law 2542 = .ok (.iaload, 1) := by decide +kernel
theorem dL_law_2543 : decode cL_law 2543 = .ok (.aload_n 3, 1) := by decide +kernel
theorem dL_law_2544 : decode cL_law 2544 = .ok (.invokestatic 264, 3) := by decide +kernel
theorem dL_law_2547 : decode cL_law 2547 = .ok (.istore 6, 2) := by decide +kernel
theorem dL_law_2549 : decode cL_law 2549 = .ok (.aload_n 2, 1) := by decide +kernel
theorem dL_law_2550 : decode cL_law 2550 = .ok (.aload_n 0, 1) := by decide +kernel
theorem dL_law_2551 : decode cL_law 2551 = .ok (.iload 5, 2) := by decide +kernel
theorem dL_law_2553 : decode cL_law 2553 = .ok (.iconst 1, 1) := by decide +kernel
theorem dL_law_2554 : decode cL_law 2554 = .ok (.iadd, 1) := by decide +kernel
theorem dL_law_2555 : decode cL_law 2555 = .ok (.iaload, 1) := by decide +kernel
theorem dL_law_2556 : decode cL_law 2556 = .ok (.aload_n 0, 1) := by decide +kernel
theorem dL_law_2557 : decode cL_law 2557 = .ok (.iload 5, 2) := by decide +kernel
theorem dL_law_2559 : decode cL_law 2559 = .ok (.iconst 2, 1) := by decide +kernel
theorem dL_law_2560 : decode cL_law 2560 = .ok (.iadd, 1) := by decide +kernel
theorem dL_law_2561 : decode cL_law 2561 = .ok (.iaload, 1) := by decide +kernel
theorem dL_law_2562 : decode cL_law 2562 = .ok (.invokevirtual 266, 3) := by decide +kernel
theorem dL_law_2565 : decode cL_law 2565 = .ok (.istore 7, 2) := by decide +kernel
theorem dL_law_2567 : decode cL_law 2567 = .ok (.aload_n 2, 1) := by decide +kernel
theorem dL_law_2568 : decode cL_law 2568 = .ok (.invokevirtual 161, 3) := by decide +kernel
theorem dL_law_2571 : decode cL_law 2571 = .ok (.iload 6, 2) := by decide +kernel
theorem dL_law_2573 : decode cL_law 2573 = .ok (.if_icmp .eq 5, 3) := by decide +kernel
theorem dL_law_2576 : decode cL_law 2576 = .ok (.iconst 0, 1) := by decide +kernel
theorem dL_law_2577 : decode cL_law 2577 = .ok (.ireturn, 1) := by decide +kernel
theorem dL_law_2578 : decode cL_law 2578 = .ok (.iload 6, 2) := by decide +kernel
theorem dL_law_2580 : decode cL_law 2580 = .ok (.ifCond .ne 15, 3) := by decide +kernel
theorem dL_law_2583 : decode cL_law 2583 = .ok (.aload_n 3, 1) := by decide +kernel
theorem dL_law_2584 : decode cL_law 2584 = .ok (.iconst 0, 1) := by decide +kernel
theorem dL_law_2585 : decode cL_law 2585 = .ok (.laload, 1) := by decide +kernel
theorem dL_law_2586 : decode cL_law 2586 = .ok (.iload 7, 2) := by decide +kernel
theorem dL_law_2588 : decode cL_law 2588 = .ok (.i2l, 1) := by decide +kernel
theorem dL_law_2589 : decode cL_law 2589 = .ok (.lcmp, 1) := by decide +kernel
theorem dL_law_2590 : decode cL_law 2590 = .ok (.ifCond .eq 5, 3) := by decide +kernel
theorem dL_law_2593 : decode cL_law 2593 = .ok (.iconst 0, 1) := by decide +kernel
theorem dL_law_2594 : decode cL_law 2594 = .ok (.ireturn, 1) := by decide +kernel
theorem dL_law_2595 : decode cL_law 2595 = .ok (.goto 708, 3) := by decide +kernel
theorem dL_law_2598 : decode cL_law 2598 = .ok (.aload_n 1, 1) := by decide +kernel
theorem dL_law_2599 : decode cL_law 2599 = .ok (.aload_n 0, 1) := by decide +kernel
theorem dL_law_2600 : decode cL_law 2600 = .ok (.iload 5, 2) := by decide +kernel
theorem dL_law_2602 : decode cL_law 2602 = .ok (.iconst 1, 1) := by decide +kernel
theorem dL_law_2603 : decode cL_law 2603 = .ok (.iadd, 1) := by decide +kernel
theorem dL_law_2604 : decode cL_law 2604 = .ok (.iaload, 1) := by decide +kernel
theorem dL_law_2605 : decode cL_law 2605 = .ok (.aload_n 3, 1) := by decide +kernel
theorem dL_law_2606 : decode cL_law 2606 = .ok (.invokestatic 267, 3) := by decide +kernel
theorem dL_law_2609 : decode cL_law 2609 = .ok (.istore 6, 2) := by decide +kernel
theorem dL_law_2611 : decode cL_law 2611 = .ok (.aload_n 2, 1) := by decide +kernel
theorem dL_law_2612 : decode cL_law 2612 = .ok (.aload_n 0, 1) := by decide +kernel
theorem dL_law_2613 : decode cL_law 2613 = .ok (.iload 5, 2) := by decide +kernel
theorem dL_law_2615 : decode cL_law 2615 = .ok (.iconst 1, 1) := by decide +kernel
theorem dL_law_2616 : decode cL_law 2616 = .ok (.iadd, 1) := by decide +kernel
theorem dL_law_2617 : decode cL_law 2617 = .ok (.iaload, 1) := by decide +kernel
theorem dL_law_2618 : decode cL_law 2618 = .ok (.invokevirtual 269, 3) := by decide +kernel
theorem dL_law_2621 : decode cL_law 2621 = .ok (.istore 7, 2) := by decide +kernel
theorem dL_law_2623 : decode cL_law 2623 = .ok (.aload_n 2, 1) := by decide +kernel
theorem dL_law_2624 : decode cL_law 2624 = .ok (.invokevirtual 161, 3) := by decide +kernel
theorem dL_law_2627 : decode cL_law 2627 = .ok (.iload 6, 2) := by decide +kernel
theorem dL_law_2629 : decode cL_law 2629 = .ok (.if_icmp .eq 5, 3) := by decide +kernel
theorem dL_law_2632 : decode cL_law 2632 = .ok (.iconst 0, 1) := by decide +kernel
theorem dL_law_2633 : decode cL_law 2633 = .ok (.ireturn, 1) := by decide +kernel
theorem dL_law_2634 : decode cL_law 2634 = .ok (.iload 6, 2) := by decide +kernel
theorem dL_law_2636 : decode cL_law 2636 = .ok (.ifCond .ne 15, 3) := by decide +kernel
theorem dL_law_2639 : decode cL_law 2639 = .ok (.aload_n 3, 1) := by decide +kernel
theorem dL_law_2640 : decode cL_law 2640 = .ok (.iconst 0, 1) := by decide +kernel
theorem dL_law_2641 : decode cL_law 2641 = .ok (.laload, 1) := by decide +kernel
theorem dL_law_2642 : decode cL_law 2642 = .ok (.iload 7, 2) := by decide +kernel
theorem dL_law_2644 : decode cL_law 2644 = .ok (.i2l, 1) := by decide +kernel
theorem dL_law_2645 : decode cL_law 2645 = .ok (.lcmp, 1) := by decide +kernel
theorem dL_law_2646 : decode cL_law 2646 = .ok (.ifCond .eq 5, 3) := by decide +kernel
theorem dL_law_2649 : decode cL_law 2649 = .ok (.iconst 0, 1) := by decide +kernel
theorem dL_law_2650 : decode cL_law 2650 = .ok (.ireturn, 1) := by decide +kernel
theorem dL_law_2651 : decode cL_law 2651 = .ok (.goto 652, 3) := by decide +kernel
theorem dL_law_2654 : decode cL_law 2654 = .ok (.aload_n 1, 1) := by decide +kernel
theorem dL_law_2655 : decode cL_law 2655 = .ok (.aload_n 0, 1) := by decide +kernel
theorem dL_law_2656 : decode cL_law 2656 = .ok (.iload 5, 2) := by decide +kernel
theorem dL_law_2658 : decode cL_law 2658 = .ok (.iconst 1, 1) := by decide +kernel
theorem dL_law_2659 : decode cL_law 2659 = .ok (.iadd, 1) := by decide +kernel
theorem dL_law_2660 : decode cL_law 2660 = .ok (.iaload, 1) := by decide +kernel
theorem dL_law_2661 : decode cL_law 2661 = .ok (.aload_n 0, 1) := by decide +kernel
theorem dL_law_2662 : decode cL_law 2662 = .ok (.iload 5, 2) := by decide +kernel
theorem dL_law_2664 : decode cL_law 2664 = .ok (.iconst 2, 1) := by decide +kernel
theorem dL_law_2665 : decode cL_law 2665 = .ok (.iadd, 1) := by decide +kernel
theorem dL_law_2666 : decode cL_law 2666 = .ok (.iaload, 1) := by decide +kernel
theorem dL_law_2667 : decode cL_law 2667 = .ok (.aload_n 0, 1) := by decide +kernel
theorem dL_law_2668 : decode cL_law 2668 = .ok (.iload 5, 2) := by decide +kernel
theorem dL_law_2670 : decode cL_law 2670 = .ok (.iconst 3, 1) := by decide +kernel
theorem dL_law_2671 : decode cL_law 2671 = .ok (.iadd, 1) := by decide +kernel
theorem dL_law_2672 : decode cL_law 2672 = .ok (.iaload, 1) := by decide +kernel
theorem dL_law_2673 : decode cL_law 2673 = .ok (.aload_n 3, 1) := by decide +kernel
theorem dL_law_2674 : decode cL_law 2674 = .ok (.invokestatic 270, 3) := by decide +kernel
theorem dL_law_2677 : decode cL_law 2677 = .ok (.istore 6, 2) := by decide +kernel
theorem dL_law_2679 : decode cL_law 2679 = .ok (.aload_n 2, 1) := by decide +kernel
theorem dL_law_2680 : decode cL_law 2680 = .ok (.aload_n 0, 1) := by decide +kernel
theorem dL_law_2681 : decode cL_law 2681 = .ok (.iload 5, 2) := by decide +kernel
theorem dL_law_2683 : decode cL_law 2683 = .ok (.iconst 1, 1) := by decide +kernel
theorem dL_law_2684 : decode cL_law 2684 = .ok (.iadd, 1) := by decide +kernel
theorem dL_law_2685 : decode cL_law 2685 = .ok (.iaload, 1) := by decide +kernel
theorem dL_law_2686 : decode cL_law 2686 = .ok (.aload_n 0, 1) := by decide +kernel
theorem dL_law_2687 : decode cL_law 2687 = .ok (.iload 5, 2) := by decide +kernel
theorem dL_law_2689 : decode cL_law 2689 = .ok (.iconst 2, 1) := by decide +kernel
theorem dL_law_2690 : decode cL_law 2690 = .ok (.iadd, 1) := by decide +kernel
theorem dL_law_2691 : decode cL_law 2691 = .ok (.iaload, 1) := by decide +kernel
theorem dL_law_2692 : decode cL_law 2692 = .ok (.aload_n 0, 1) := by decide +kernel
theorem dL_law_2693 : decode cL_law 2693 = .ok (.iload 5, 2) := by decide +kernel
theorem dL_law_2695 : decode cL_law 2695 = .ok (.iconst 3, 1) := by decide +kernel
theorem dL_law_2696 : decode cL_law 2696 = .ok (.iadd, 1) := by decide +kernel
theorem dL_law_2697 : decode cL_law 2697 = .ok (.iaload, 1) := by decide +kernel
theorem dL_law_2698 : decode cL_law 2698 = .ok (.invokevirtual 272, 3) := by decide +kernel
theorem dL_law_2701 : decode cL_law 2701 = .ok (.istore 7, 2) := by decide +kernel
theorem dL_law_2703 : decode cL_law 2703 = .ok (.aload_n 2, 1) := by decide +kernel
theorem dL_law_2704 : decode cL_law 2704 = .ok (.invokevirtual 161, 3) := by decide +kernel
theorem dL_law_2707 : decode cL_law 2707 = .ok (.iload 6, 2) := by decide +kernel
theorem dL_law_2709 : decode cL_law 2709 = .ok (.if_icmp .eq 5, 3) := by decide +kernel
theorem dL_law_2712 : decode cL_law 2712 = .ok (.iconst 0, 1) := by decide +kernel
theorem dL_law_2713 : decode cL_law 2713 = .ok (.ireturn, 1) := by decide +kernel
theorem dL_law_2714 : decode cL_law 2714 = .ok (.iload 6, 2) := by decide +kernel
theorem dL_law_2716 : decode cL_law 2716 = .ok (.ifCond .ne 15, 3) := by decide +kernel
theorem dL_law_2719 : decode cL_law 2719 = .ok (.aload_n 3, 1) := by decide +kernel
theorem dL_law_2720 : decode cL_law 2720 = .ok (.iconst 0, 1) := by decide +kernel
theorem dL_law_2721 : decode cL_law 2721 = .ok (.laload, 1) := by decide +kernel
theorem dL_law_2722 : decode cL_law 2722 = .ok (.iload 7, 2) := by decide +kernel
theorem dL_law_2724 : decode cL_law 2724 = .ok (.i2l, 1) := by decide +kernel
theorem dL_law_2725 : decode cL_law 2725 = .ok (.lcmp, 1) := by decide +kernel
theorem dL_law_2726 : decode cL_law 2726 = .ok (.ifCond .eq 5, 3) := by decide +kernel
theorem dL_law_2729 : decode cL_law 2729 = .ok (.iconst 0, 1) := by decide +kernel
theorem dL_law_2730 : decode cL_law 2730 = .ok (.ireturn, 1) := by decide +kernel
theorem dL_law_2731 : decode cL_law 2731 = .ok (.goto 572, 3) := by decide +kernel
theorem dL_law_2734 : decode cL_law 2734 = .ok (.aload_n 1, 1) := by decide +kernel
theorem dL_law_2735 : decode cL_law 2735 = .ok (.aload_n 0, 1) := by decide +kernel
theorem dL_law_2736 : decode cL_law 2736 = .ok (.iload 5, 2) := by decide +kernel
theorem dL_law_2738 : decode cL_law 2738 = .ok (.iconst 1, 1) := by decide +kernel
theorem dL_law_2739 : decode cL_law 2739 = .ok (.iadd, 1) := by decide +kernel
theorem dL_law_2740 : decode cL_law 2740 = .ok (.iaload, 1) := by decide +kernel
theorem dL_law_2741 : decode cL_law 2741 = .ok (.aload_n 0, 1) := by decide +kernel
theorem dL_law_2742 : decode cL_law 2742 = .ok (.iload 5, 2) := by decide +kernel
theorem dL_law_2744 : decode cL_law 2744 = .ok (.iconst 2, 1) := by decide +kernel
theorem dL_law_2745 : decode cL_law 2745 = .ok (.iadd, 1) := by decide +kernel
theorem dL_law_2746 : decode cL_law 2746 = .ok (.iaload, 1) := by decide +kernel
theorem dL_law_2747 : decode cL_law 2747 = .ok (.aload_n 0, 1) := by decide +kernel
theorem dL_law_2748 : decode cL_law 2748 = .ok (.iload 5, 2) := by decide +kernel
theorem dL_law_2750 : decode cL_law 2750 = .ok (.iconst 3, 1) := by decide +kernel
theorem dL_law_2751 : decode cL_law 2751 = .ok (.iadd, 1) := by decide +kernel
theorem dL_law_2752 : decode cL_law 2752 = .ok (.iaload, 1) := by decide +kernel
theorem dL_law_2753 : decode cL_law 2753 = .ok (.aload_n 0, 1) := by decide +kernel
theorem dL_law_2754 : decode cL_law 2754 = .ok (.iload 5, 2) := by decide +kernel
theorem dL_law_2756 : decode cL_law 2756 = .ok (.iconst 4, 1) := by decide +kernel
theorem dL_law_2757 : decode cL_law 2757 = .ok (.iadd, 1) := by decide +kernel
theorem dL_law_2758 : decode cL_law 2758 = .ok (.iaload, 1) := by decide +kernel
theorem dL_law_2759 : decode cL_law 2759 = .ok (.aload_n 0, 1) := by decide +kernel
theorem dL_law_2760 : decode cL_law 2760 = .ok (.iload 5, 2) := by decide +kernel
theorem dL_law_2762 : decode cL_law 2762 = .ok (.iconst 5, 1) := by decide +kernel
theorem dL_law_2763 : decode cL_law 2763 = .ok (.iadd, 1) := by decide +kernel
theorem dL_law_2764 : decode cL_law 2764 = .ok (.iaload, 1) := by decide +kernel
theorem dL_law_2765 : decode cL_law 2765 = .ok (.ifCond .eq 7, 3) := by decide +kernel
theorem dL_law_2768 : decode cL_law 2768 = .ok (.iconst 1, 1) := by decide +kernel
theorem dL_law_2769 : decode cL_law 2769 = .ok (.goto 4, 3) := by decide +kernel
theorem dL_law_2772 : decode cL_law 2772 = .ok (.iconst 0, 1) := by decide +kernel
theorem dL_law_2773 : decode cL_law 2773 = .ok (.aload_n 3, 1) := by decide +kernel
theorem dL_law_2774 : decode cL_law 2774 = .ok (.invokestatic 273, 3) := by decide +kernel
theorem dL_law_2777 : decode cL_law 2777 = .ok (.istore 6, 2) := by decide +kernel
theorem dL_law_2779 : decode cL_law 2779 = .ok (.aload_n 2, 1) := by decide +kernel
theorem dL_law_2780 : decode cL_law 2780 = .ok (.aload_n 0, 1) := by decide +kernel
theorem dL_law_2781 : decode cL_law 2781 = .ok (.iload 5, 2) := by decide +kernel
theorem dL_law_2783 : decode cL_law 2783 = .ok (.iconst 1, 1) := by decide +kernel
theorem dL_law_2784 : decode cL_law 2784 = .ok (.iadd, 1) := by decide +kernel
theorem dL_law_2785 : decode cL_law 2785 = .ok (.iaload, 1) := by decide +kernel
theorem dL_law_2786 : decode cL_law 2786 = .ok (.aload_n 0, 1) := by decide +kernel
theorem dL_law_2787 : decode cL_law 2787 = .ok (.iload 5, 2) := by decide +kernel
theorem dL_law_2789 : decode cL_law 2789 = .ok (.iconst 2, 1) := by decide +kernel
theorem dL_law_2790 : decode cL_law 2790 = .ok (.iadd, 1) := by decide +kernel
theorem dL_law_2791 : decode cL_law 2791 = .ok (.iaload, 1) := by decide +kernel
theorem dL_law_2792 : decode cL_law 2792 = .ok (.aload_n 0, 1) := by decide +kernel
theorem dL_law_2793 : decode cL_law 2793 = .ok (.iload 5, 2) := by decide +kernel
theorem dL_law_2795 : decode cL_law 2795 = .ok (.iconst 3, 1) := by decide +kernel
theorem dL_law_2796 : decode cL_law 2796 = .ok (.iadd, 1) := by decide +kernel
theorem dL_law_2797 : decode cL_law 2797 = .ok (.iaload, 1) := by decide +kernel
theorem dL_law_2798 : decode cL_law 2798 = .ok (.aload_n 0, 1) := by decide +kernel
theorem dL_law_2799 : decode cL_law 2799 = .ok (.iload 5, 2) := by decide +kernel
theorem dL_law_2801 : decode cL_law 2801 = .ok (.iconst 4, 1) := by decide +kernel
theorem dL_law_2802 : decode cL_law 2802 = .ok (.iadd, 1) := by decide +kernel
theorem dL_law_2803 : decode cL_law 2803 = .ok (.iaload, 1) := by decide +kernel
theorem dL_law_2804 : decode cL_law 2804 = .ok (.aload_n 0, 1) := by decide +kernel
theorem dL_law_2805 : decode cL_law 2805 = .ok (.iload 5, 2) := by decide +kernel
theorem dL_law_2807 : decode cL_law 2807 = .ok (.iconst 5, 1) := by decide +kernel
theorem dL_law_2808 : decode cL_law 2808 = .ok (.iadd, 1) := by decide +kernel
theorem dL_law_2809 : decode cL_law 2809 = .ok (.iaload, 1) := by decide +kernel
theorem dL_law_2810 : decode cL_law 2810 = .ok (.ifCond .eq 7, 3) := by decide +kernel
theorem dL_law_2813 : decode cL_law 2813 = .ok (.iconst 1, 1) := by decide +kernel
theorem dL_law_2814 : decode cL_law 2814 = .ok (.goto 4, 3) := by decide +kernel
theorem dL_law_2817 : decode cL_law 2817 = .ok (.iconst 0, 1) := by decide +kernel
theorem dL_law_2818 : decode cL_law 2818 = .ok (.invokevirtual 276, 3) := by decide +kernel
theorem dL_law_2821 : decode cL_law 2821 = .ok (.istore 7, 2) := by decide +kernel
theorem dL_law_2823 : decode cL_law 2823 = .ok (.aload_n 2, 1) := by decide +kernel
theorem dL_law_2824 : decode cL_law 2824 = .ok (.invokevirtual 161, 3) := by decide +kernel
theorem dL_law_2827 : decode cL_law 2827 = .ok (.iload 6, 2) := by decide +kernel
theorem dL_law_2829 : decode cL_law 2829 = .ok (.if_icmp .eq 5, 3) := by decide +kernel
theorem dL_law_2832 : decode cL_law 2832 = .ok (.iconst 0, 1) := by decide +kernel
theorem dL_law_2833 : decode cL_law 2833 = .ok (.ireturn, 1) := by decide +kernel
theorem dL_law_2834 : decode cL_law 2834 = .ok (.iload 6, 2) := by decide +kernel
theorem dL_law_2836 : decode cL_law 2836 = .ok (.ifCond .ne 15, 3) := by decide +kernel
theorem dL_law_2839 : decode cL_law 2839 = .ok (.aload_n 3, 1) := by decide +kernel
theorem dL_law_2840 : decode cL_law 2840 = .ok (.iconst 0, 1) := by decide +kernel
theorem dL_law_2841 : decode cL_law 2841 = .ok (.laload, 1) := by decide +kernel
theorem dL_law_2842 : decode cL_law 2842 = .ok (.iload 7, 2) := by decide +kernel
theorem dL_law_2844 : decode cL_law 2844 = .ok (.i2l, 1) := by decide +kernel
theorem dL_law_2845 : decode cL_law 2845 = .ok (.lcmp, 1) := by decide +kernel
theorem dL_law_2846 : decode cL_law 2846 = .ok (.ifCond .eq 5, 3) := by decide +kernel
theorem dL_law_2849 : decode cL_law 2849 = .ok (.iconst 0, 1) := by decide +kernel
theorem dL_law_2850 : decode cL_law 2850 = .ok (.ireturn, 1) := by decide +kernel
theorem dL_law_2851 : decode cL_law 2851 = .ok (.goto 452, 3) := by decide +kernel
theorem dL_law_2854 : decode cL_law 2854 = .ok (.aload_n 1, 1) := by decide +kernel
theorem dL_law_2855 : decode cL_law 2855 = .ok (.aload_n 0, 1) := by decide +kernel
theorem dL_law_2856 : decode cL_law 2856 = .ok (.iload 5, 2) := by decide +kernel
theorem dL_law_2858 : decode cL_law 2858 = .ok (.iconst 1, 1) := by decide +kernel
theorem dL_law_2859 : decode cL_law 2859 = .ok (.iadd, 1) := by decide +kernel
theorem dL_law_2860 : decode cL_law 2860 = .ok (.iaload, 1) := by decide +kernel
theorem dL_law_2861 : decode cL_law 2861 = .ok (.aload_n 3, 1) := by decide +kernel
theorem dL_law_2862 : decode cL_law 2862 = .ok (.invokestatic 277, 3) := by decide +kernel
theorem dL_law_2865 : decode cL_law 2865 = .ok (.istore 6, 2) := by decide +kernel
theorem dL_law_2867 : decode cL_law 2867 = .ok (.aload_n 2, 1) := by decide +kernel
theorem dL_law_2868 : decode cL_law 2868 = .ok (.aload_n 0, 1) := by decide +kernel
theorem dL_law_2869 : decode cL_law 2869 = .ok (.iload 5, 2) := by decide +kernel
theorem dL_law_2871 : decode cL_law 2871 = .ok (.iconst 1, 1) := by decide +kernel
theorem dL_law_2872 : decode cL_law 2872 = .ok (.iadd, 1) := by decide +kernel
theorem dL_law_2873 : decode cL_law 2873 = .ok (.iaload, 1) := by decide +kernel
theorem dL_law_2874 : decode cL_law 2874 = .ok (.invokevirtual 279, 3) := by decide +kernel
theorem dL_law_2877 : decode cL_law 2877 = .ok (.istore 7, 2) := by decide +kernel
theorem dL_law_2879 : decode cL_law 2879 = .ok (.aload_n 2, 1) := by decide +kernel
theorem dL_law_2880 : decode cL_law 2880 = .ok (.invokevirtual 161, 3) := by decide +kernel
theorem dL_law_2883 : decode cL_law 2883 = .ok (.iload 6, 2) := by decide +kernel
theorem dL_law_2885 : decode cL_law 2885 = .ok (.if_icmp .eq 5, 3) := by decide +kernel
theorem dL_law_2888 : decode cL_law 2888 = .ok (.iconst 0, 1) := by decide +kernel
theorem dL_law_2889 : decode cL_law 2889 = .ok (.ireturn, 1) := by decide +kernel
theorem dL_law_2890 : decode cL_law 2890 = .ok (.iload 6, 2) := by decide +kernel
theorem dL_law_2892 : decode cL_law 2892 = .ok (.ifCond .ne 15, 3) := by decide +kernel
theorem dL_law_2895 : decode cL_law 2895 = .ok (.aload_n 3, 1) := by decide +kernel
theorem dL_law_2896 : decode cL_law 2896 = .ok (.iconst 0, 1) := by decide +kernel
theorem dL_law_2897 : decode cL_law 2897 = .ok (.laload, 1) := by decide +kernel
theorem dL_law_2898 : decode cL_law 2898 = .ok (.iload 7, 2) := by decide +kernel
theorem dL_law_2900 : decode cL_law 2900 = .ok (.i2l, 1) := by decide +kernel
theorem dL_law_2901 : decode cL_law 2901 = .ok (.lcmp, 1) := by decide +kernel
theorem dL_law_2902 : decode cL_law 2902 = .ok (.ifCond .eq 5, 3) := by decide +kernel
theorem dL_law_2905 : decode cL_law 2905 = .ok (.iconst 0, 1) := by decide +kernel
theorem dL_law_2906 : decode cL_law 2906 = .ok (.ireturn, 1) := by decide +kernel
theorem dL_law_2907 : decode cL_law 2907 = .ok (.goto 396, 3) := by decide +kernel
theorem dL_law_2910 : decode cL_law 2910 = .ok (.aload_n 1, 1) := by decide +kernel
theorem dL_law_2911 : decode cL_law 2911 = .ok (.aload_n 0, 1) := by decide +kernel
theorem dL_law_2912 : decode cL_law 2912 = .ok (.iload 5, 2) := by decide +kernel
theorem dL_law_2914 : decode cL_law 2914 = .ok (.iconst 1, 1) := by decide +kernel
theorem dL_law_2915 : decode cL_law 2915 = .ok (.iadd, 1) := by decide +kernel
theorem dL_law_2916 : decode cL_law 2916 = .ok (.iaload, 1) := by decide +kernel
theorem dL_law_2917 : decode cL_law 2917 = .ok (.aload_n 0, 1) := by decide +kernel
theorem dL_law_2918 : decode cL_law 2918 = .ok (.iload 5, 2) := by decide +kernel
theorem dL_law_2920 : decode cL_law 2920 = .ok (.iconst 2, 1) := by decide +kernel
theorem dL_law_2921 : decode cL_law 2921 = .ok (.iadd, 1) := by decide +kernel
theorem dL_law_2922 : decode cL_law 2922 = .ok (.iaload, 1) := by decide +kernel
theorem dL_law_2923 : decode cL_law 2923 = .ok (.aload_n 0, 1) := by decide +kernel
theorem dL_law_2924 : decode cL_law 2924 = .ok (.iload 5, 2) := by decide +kernel
theorem dL_law_2926 : decode cL_law 2926 = .ok (.iconst 3, 1) := by decide +kernel
theorem dL_law_2927 : decode cL_law 2927 = .ok (.iadd, 1) := by decide +kernel
theorem dL_law_2928 : decode cL_law 2928 = .ok (.iaload, 1) := by decide +kernel
theorem dL_law_2929 : decode cL_law 2929 = .ok (.aload_n 0, 1) := by decide +kernel
theorem dL_law_2930 : decode cL_law 2930 = .ok (.iload 5, 2) := by decide +kernel
theorem dL_law_2932 : decode cL_law 2932 = .ok (.iconst 4, 1) := by decide +kernel
theorem dL_law_2933 : decode cL_law 2933 = .ok (.iadd, 1) := by decide +kernel
theorem dL_law_2934 : decode cL_law 2934 = .ok (.iaload, 1) := by decide +kernel
theorem dL_law_2935 : decode cL_law 2935 = .ok (.aload_n 3, 1) := by decide +kernel
theorem dL_law_2936 : decode cL_law 2936 = .ok (.invokestatic 280, 3) := by decide +kernel
theorem dL_law_2939 : decode cL_law 2939 = .ok (.istore 6, 2) := by decide +kernel
theorem dL_law_2941 : decode cL_law 2941 = .ok (.aload_n 2, 1) := by decide +kernel
theorem dL_law_2942 : decode cL_law 2942 = .ok (.aload_n 0, 1) := by decide +kernel
theorem dL_law_2943 : decode cL_law 2943 = .ok (.iload 5, 2) := by decide +kernel
theorem dL_law_2945 : decode cL_law 2945 = .ok (.iconst 1, 1) := by decide +kernel
theorem dL_law_2946 : decode cL_law 2946 = .ok (.iadd, 1) := by decide +kernel
theorem dL_law_2947 : decode cL_law 2947 = .ok (.iaload, 1) := by decide +kernel
theorem dL_law_2948 : decode cL_law 2948 = .ok (.aload_n 0, 1) := by decide +kernel
theorem dL_law_2949 : decode cL_law 2949 = .ok (.iload 5, 2) := by decide +kernel
theorem dL_law_2951 : decode cL_law 2951 = .ok (.iconst 2, 1) := by decide +kernel
theorem dL_law_2952 : decode cL_law 2952 = .ok (.iadd, 1) := by decide +kernel
theorem dL_law_2953 : decode cL_law 2953 = .ok (.iaload, 1) := by decide +kernel
theorem dL_law_2954 : decode cL_law 2954 = .ok (.aload_n 0, 1) := by decide +kernel
theorem dL_law_2955 : decode cL_law 2955 = .ok (.iload 5, 2) := by decide +kernel
theorem dL_law_2957 : decode cL_law 2957 = .ok (.iconst 3, 1) := by decide +kernel
theorem dL_law_2958 : decode cL_law 2958 = .ok (.iadd, 1) := by decide +kernel
theorem dL_law_2959 : decode cL_law 2959 = .ok (.iaload, 1) := by decide +kernel
theorem dL_law_2960 : decode cL_law 2960 = .ok (.aload_n 0, 1) := by decide +kernel
theorem dL_law_2961 : decode cL_law 2961 = .ok (.iload 5, 2) := by decide +kernel
theorem dL_law_2963 : decode cL_law 2963 = .ok (.iconst 4, 1) := by decide +kernel
theorem dL_law_2964 : decode cL_law 2964 = .ok (.iadd, 1) := by decide +kernel
theorem dL_law_2965 : decode cL_law 2965 = .ok (.iaload, 1) := by decide +kernel
theorem dL_law_2966 : decode cL_law 2966 = .ok (.invokevirtual 282, 3) := by decide +kernel
theorem dL_law_2969 : decode cL_law 2969 = .ok (.istore 7, 2) := by decide +kernel
theorem dL_law_2971 : decode cL_law 2971 = .ok (.aload_n 2, 1) := by decide +kernel
theorem dL_law_2972 : decode cL_law 2972 = .ok (.invokevirtual 161, 3) := by decide +kernel
theorem dL_law_2975 : decode cL_law 2975 = .ok (.iload 6, 2) := by decide +kernel
theorem dL_law_2977 : decode cL_law 2977 = .ok (.if_icmp .eq 5, 3) := by decide +kernel
theorem dL_law_2980 : decode cL_law 2980 = .ok (.iconst 0, 1) := by decide +kernel
theorem dL_law_2981 : decode cL_law 2981 = .ok (.ireturn, 1) := by decide +kernel
theorem dL_law_2982 : decode cL_law 2982 = .ok (.iload 6, 2) := by decide +kernel
theorem dL_law_2984 : decode cL_law 2984 = .ok (.ifCond .ne 15, 3) := by decide +kernel
theorem dL_law_2987 : decode cL_law 2987 = .ok (.aload_n 3, 1) := by decide +kernel
theorem dL_law_2988 : decode cL_law 2988 = .ok (.iconst 0, 1) := by decide +kernel
theorem dL_law_2989 : decode cL_law 2989 = .ok (.laload, 1) := by decide +kernel
theorem dL_law_2990 : decode cL_law 2990 = .ok (.iload 7, 2) := by decide +kernel
theorem dL_law_2992 : decode cL_law 2992 = .ok (.i2l, 1) := by decide +kernel
theorem dL_law_2993 : decode cL_law 2993 = .ok (.lcmp, 1) := by decide +kernel
theorem dL_law_2994 : decode cL_law 2994 = .ok (.ifCond .eq 5, 3) := by decide +kernel
theorem dL_law_2997 : decode cL_law 2997 = .ok (.iconst 0, 1) := by decide +kernel
theorem dL_law_2998 : decode cL_law 2998 = .ok (.ireturn, 1) := by decide +kernel
theorem dL_law_2999 : decode cL_law 2999 = .ok (.goto 304, 3) := by decide +kernel
theorem dL_law_3002 : decode cL_law 3002 = .ok (.aload_n 1, 1) := by decide +kernel
theorem dL_law_3003 : decode cL_law 3003 = .ok (.aload_n 0, 1) := by decide +kernel
theorem dL_law_3004 : decode cL_law 3004 = .ok (.iload 5, 2) := by decide +kernel
theorem dL_law_3006 : decode cL_law 3006 = .ok (.iconst 1, 1) := by decide +kernel
theorem dL_law_3007 : decode cL_law 3007 = .ok (.iadd, 1) := by decide +kernel
theorem dL_law_3008 : decode cL_law 3008 = .ok (.iaload, 1) := by decide +kernel
theorem dL_law_3009 : decode cL_law 3009 = .ok (.aload_n 0, 1) := by decide +kernel
theorem dL_law_3010 : decode cL_law 3010 = .ok (.iload 5, 2) := by decide +kernel
theorem dL_law_3012 : decode cL_law 3012 = .ok (.iconst 2, 1) := by decide +kernel
theorem dL_law_3013 : decode cL_law 3013 = .ok (.iadd, 1) := by decide +kernel
theorem dL_law_3014 : decode cL_law 3014 = .ok (.iaload, 1) := by decide +kernel
theorem dL_law_3015 : decode cL_law 3015 = .ok (.i2l, 1) := by decide +kernel
theorem dL_law_3016 : decode cL_law 3016 = .ok (.bipush 32, 2) := by decide +kernel
theorem dL_law_3018 : decode cL_law 3018 = .ok (.lshl, 1) := by decide +kernel
theorem dL_law_3019 : decode cL_law 3019 = .ok (.aload_n 0, 1) := by decide +kernel
theorem dL_law_3020 : decode cL_law 3020 = .ok (.iload 5, 2) := by decide +kernel
theorem dL_law_3022 : decode cL_law 3022 = .ok (.iconst 3, 1) := by decide +kernel
theorem dL_law_3023 : decode cL_law 3023 = .ok (.iadd, 1) := by decide +kernel
theorem dL_law_3024 : decode cL_law 3024 = .ok (.iaload, 1) := by decide +kernel
theorem dL_law_3025 : decode cL_law 3025 = .ok (.i2l, 1) := by decide +kernel
theorem dL_law_3026 : decode cL_law 3026 = .ok (.ldc2_w 258, 3) := by decide +kernel
theorem dL_law_3029 : decode cL_law 3029 = .ok (.land, 1) := by decide +kernel
theorem dL_law_3030 : decode cL_law 3030 = .ok (.lor, 1) := by decide +kernel
theorem dL_law_3031 : decode cL_law 3031 = .ok (.aload_n 3, 1) := by decide +kernel
theorem dL_law_3032 : decode cL_law 3032 = .ok (.invokestatic 283, 3) := by decide +kernel
theorem dL_law_3035 : decode cL_law 3035 = .ok (.istore 6, 2) := by decide +kernel
theorem dL_law_3037 : decode cL_law 3037 = .ok (.aload_n 2, 1) := by decide +kernel
theorem dL_law_3038 : decode cL_law 3038 = .ok (.aload_n 0, 1) := by decide +kernel
theorem dL_law_3039 : decode cL_law 3039 = .ok (.iload 5, 2) := by decide +kernel
theorem dL_law_3041 : decode cL_law 3041 = .ok (.iconst 1, 1) := by decide +kernel
theorem dL_law_3042 : decode cL_law 3042 = .ok (.iadd, 1) := by decide +kernel
theorem dL_law_3043 : decode cL_law 3043 = .ok (.iaload, 1) := by decide +kernel
theorem dL_law_3044 : decode cL_law 3044 = .ok (.aload_n 0, 1) := by decide +kernel
theorem dL_law_3045 : decode cL_law 3045 = .ok (.iload 5, 2) := by decide +kernel
theorem dL_law_3047 : decode cL_law 3047 = .ok (.iconst 2, 1) := by decide +kernel
theorem dL_law_3048 : decode cL_law 3048 = .ok (.iadd, 1) := by decide +kernel
theorem dL_law_3049 : decode cL_law 3049 = .ok (.iaload, 1) := by decide +kernel
theorem dL_law_3050 : decode cL_law 3050 = .ok (.i2l, 1) := by decide +kernel
theorem dL_law_3051 : decode cL_law 3051 = .ok (.bipush 32, 2) := by decide +kernel
theorem dL_law_3053 : decode cL_law 3053 = .ok (.lshl, 1) := by decide +kernel
theorem dL_law_3054 : decode cL_law 3054 = .ok (.aload_n 0, 1) := by decide +kernel
theorem dL_law_3055 : decode cL_law 3055 = .ok (.iload 5, 2) := by decide +kernel
theorem dL_law_3057 : decode cL_law 3057 = .ok (.iconst 3, 1) := by decide +kernel
theorem dL_law_3058 : decode cL_law 3058 = .ok (.iadd, 1) := by decide +kernel
theorem dL_law_3059 : decode cL_law 3059 = .ok (.iaload, 1) := by decide +kernel
theorem dL_law_3060 : decode cL_law 3060 = .ok (.i2l, 1) := by decide +kernel
theorem dL_law_3061 : decode cL_law 3061 = .ok (.ldc2_w 258, 3) := by decide +kernel
theorem dL_law_3064 : decode cL_law 3064 = .ok (.land, 1) := by decide +kernel
theorem dL_law_3065 : decode cL_law 3065 = .ok (.lor, 1) := by decide +kernel
theorem dL_law_3066 : decode cL_law 3066 = .ok (.invokevirtual 285, 3) := by decide +kernel
theorem dL_law_3069 : decode cL_law 3069 = .ok (.lstore 7, 2) := by decide +kernel
theorem dL_law_3071 : decode cL_law 3071 = .ok (.aload_n 2, 1) := by decide +kernel
theorem dL_law_3072 : decode cL_law 3072 = .ok (.invokevirtual 161, 3) := by decide +kernel
theorem dL_law_3075 : decode cL_law 3075 = .ok (.iload 6, 2) := by decide +kernel
theorem dL_law_3077 : decode cL_law 3077 = .ok (.if_icmp .eq 5, 3) := by decide +kernel
theorem dL_law_3080 : decode cL_law 3080 = .ok (.iconst 0, 1) := by decide +kernel
theorem dL_law_3081 : decode cL_law 3081 = .ok (.ireturn, 1) := by decide +kernel
theorem dL_law_3082 : decode cL_law 3082 = .ok (.iload 6, 2) := by decide +kernel
theorem dL_law_3084 : decode cL_law 3084 = .ok (.ifCond .ne 14, 3) := by decide +kernel
theorem dL_law_3087 : decode cL_law 3087 = .ok (.aload_n 3, 1) := by decide +kernel
theorem dL_law_3088 : decode cL_law 3088 = .ok (.iconst 0, 1) := by decide +kernel
theorem dL_law_3089 : decode cL_law 3089 = .ok (.laload, 1) := by decide +kernel
theorem dL_law_3090 : decode cL_law 3090 = .ok (.lload 7, 2) := by decide +kernel
theorem dL_law_3092 : decode cL_law 3092 = .ok (.lcmp, 1) := by decide +kernel
theorem dL_law_3093 : decode cL_law 3093 = .ok (.ifCond .eq 5, 3) := by decide +kernel
theorem dL_law_3096 : decode cL_law 3096 = .ok (.iconst 0, 1) := by decide +kernel
theorem dL_law_3097 : decode cL_law 3097 = .ok (.ireturn, 1) := by decide +kernel
theorem dL_law_3098 : decode cL_law 3098 = .ok (.goto 205, 3) := by decide +kernel
theorem dL_law_3101 : decode cL_law 3101 = .ok (.aload_n 1, 1) := by decide +kernel
theorem dL_law_3102 : decode cL_law 3102 = .ok (.aload_n 0, 1) := by decide +kernel
theorem dL_law_3103 : decode cL_law 3103 = .ok (.iload 5, 2) := by decide +kernel
theorem dL_law_3105 : decode cL_law 3105 = .ok (.iconst 1, 1) := by decide +kernel
theorem dL_law_3106 : decode cL_law 3106 = .ok (.iadd, 1) := by decide +kernel
theorem dL_law_3107 : decode cL_law 3107 = .ok (.iaload, 1) := by decide +kernel
theorem dL_law_3108 : decode cL_law 3108 = .ok (.aload_n 3, 1) := by decide +kernel
theorem dL_law_3109 : decode cL_law 3109 = .ok (.invokestatic 286, 3) := by decide +kernel
theorem dL_law_3112 : decode cL_law 3112 = .ok (.istore 6, 2) := by decide +kernel
theorem dL_law_3114 : decode cL_law 3114 = .ok (.aload_n 2, 1) := by decide +kernel
theorem dL_law_3115 : decode cL_law 3115 = .ok (.aload_n 0, 1) := by decide +kernel
theorem dL_law_3116 : decode cL_law 3116 = .ok (.iload 5, 2) := by decide +kernel
theorem dL_law_3118 : decode cL_law 3118 = .ok (.iconst 1, 1) := by decide +kernel
theorem dL_law_3119 : decode cL_law 3119 = .ok (.iadd, 1) := by decide +kernel
theorem dL_law_3120 : decode cL_law 3120 = .ok (.iaload, 1) := by decide +kernel
theorem dL_law_3121 : decode cL_law 3121 = .ok (.invokevirtual 288, 3) := by decide +kernel
theorem dL_law_3124 : decode cL_law 3124 = .ok (.istore 7, 2) := by decide +kernel
theorem dL_law_3126 : decode cL_law 3126 = .ok (.aload_n 2, 1) := by decide +kernel
theorem dL_law_3127 : decode cL_law 3127 = .ok (.invokevirtual 161, 3) := by decide +kernel
theorem dL_law_3130 : decode cL_law 3130 = .ok (.iload 6, 2) := by decide +kernel
theorem dL_law_3132 : decode cL_law 3132 = .ok (.if_icmp .eq 5, 3) := by decide +kernel
theorem dL_law_3135 : decode cL_law 3135 = .ok (.iconst 0, 1) := by decide +kernel
theorem dL_law_3136 : decode cL_law 3136 = .ok (.ireturn, 1) := by decide +kernel
theorem dL_law_3137 : decode cL_law 3137 = .ok (.iload 6, 2) := by decide +kernel
theorem dL_law_3139 : decode cL_law 3139 = .ok (.ifCond .ne 15, 3) := by decide +kernel
theorem dL_law_3142 : decode cL_law 3142 = .ok (.aload_n 3, 1) := by decide +kernel
theorem dL_law_3143 : decode cL_law 3143 = .ok (.iconst 0, 1) := by decide +kernel
theorem dL_law_3144 : decode cL_law 3144 = .ok (.laload, 1) := by decide +kernel
theorem dL_law_3145 : decode cL_law 3145 = .ok (.iload 7, 2) := by decide +kernel
theorem dL_law_3147 : decode cL_law 3147 = .ok (.i2l, 1) := by decide +kernel
theorem dL_law_3148 : decode cL_law 3148 = .ok (.lcmp, 1) := by decide +kernel
theorem dL_law_3149 : decode cL_law 3149 = .ok (.ifCond .eq 5, 3) := by decide +kernel
theorem dL_law_3152 : decode cL_law 3152 = .ok (.iconst 0, 1) := by decide +kernel
theorem dL_law_3153 : decode cL_law 3153 = .ok (.ireturn, 1) := by decide +kernel
theorem dL_law_3154 : decode cL_law 3154 = .ok (.goto 149, 3) := by decide +kernel
theorem dL_law_3157 : decode cL_law 3157 = .ok (.aload_n 1, 1) := by decide +kernel
theorem dL_law_3158 : decode cL_law 3158 = .ok (.aload_n 0, 1) := by decide +kernel
theorem dL_law_3159 : decode cL_law 3159 = .ok (.iload 5, 2) := by decide +kernel
theorem dL_law_3161 : decode cL_law 3161 = .ok (.iconst 1, 1) := by decide +kernel
theorem dL_law_3162 : decode cL_law 3162 = .ok (.iadd, 1) := by decide +kernel
theorem dL_law_3163 : decode cL_law 3163 = .ok (.iaload, 1) := by decide +kernel
theorem dL_law_3164 : decode cL_law 3164 = .ok (.aload 4, 2) := by decide +kernel
theorem dL_law_3166 : decode cL_law 3166 = .ok (.invokestatic 289, 3) := by decide +kernel
theorem dL_law_3169 : decode cL_law 3169 = .ok (.istore 6, 2) := by decide +kernel
theorem dL_law_3171 : decode cL_law 3171 = .ok (.aload_n 2, 1) := by decide +kernel
theorem dL_law_3172 : decode cL_law 3172 = .ok (.aload_n 0, 1) := by decide +kernel
theorem dL_law_3173 : decode cL_law 3173 = .ok (.iload 5, 2) := by decide +kernel
theorem dL_law_3175 : decode cL_law 3175 = .ok (.iconst 1, 1) := by decide +kernel
theorem dL_law_3176 : decode cL_law 3176 = .ok (.iadd, 1) := by decide +kernel
theorem dL_law_3177 : decode cL_law 3177 = .ok (.iaload, 1) := by decide +kernel
theorem dL_law_3178 : decode cL_law 3178 = .ok (.invokevirtual 292, 3) := by decide +kernel
theorem dL_law_3181 : decode cL_law 3181 = .ok (.fstore 7, 2) := by decide +kernel
theorem dL_law_3183 : decode cL_law 3183 = .ok (.aload_n 2, 1) := by decide +kernel
theorem dL_law_3184 : decode cL_law 3184 = .ok (.invokevirtual 161, 3) := by decide +kernel
theorem dL_law_3187 : decode cL_law 3187 = .ok (.iload 6, 2) := by decide +kernel
theorem dL_law_3189 : decode cL_law 3189 = .ok (.if_icmp .eq 5, 3) := by decide +kernel
theorem dL_law_3192 : decode cL_law 3192 = .ok (.iconst 0, 1) := by decide +kernel
theorem dL_law_3193 : decode cL_law 3193 = .ok (.ireturn, 1) := by decide +kernel
theorem dL_law_3194 : decode cL_law 3194 = .ok (.iload 6, 2) := by decide +kernel
theorem dL_law_3196 : decode cL_law 3196 = .ok (.ifCond .ne 36, 3) := by decide +kernel
theorem dL_law_3199 : decode cL_law 3199 = .ok (.aload 4, 2) := by decide +kernel
theorem dL_law_3201 : decode cL_law 3201 = .ok (.iconst 0, 1) := by decide +kernel
theorem dL_law_3202 : decode cL_law 3202 = .ok (.daload, 1) := by decide +kernel
theorem dL_law_3203 : decode cL_law 3203 = .ok (.fload 7, 2) := by decide +kernel
theorem dL_law_3205 : decode cL_law 3205 = .ok (.f2d, 1) := by decide +kernel
theorem dL_law_3206 : decode cL_law 3206 = .ok (.dcmp .l, 1) := by decide +kernel
theorem dL_law_3207 : decode cL_law 3207 = .ok (.ifCond .eq 25, 3) := by decide +kernel
theorem dL_law_3210 : decode cL_law 3210 = .ok (.aload 4, 2) := by decide +kernel
theorem dL_law_3212 : decode cL_law 3212 = .ok (.iconst 0, 1) := by decide +kernel
theorem dL_law_3213 : decode cL_law 3213 = .ok (.daload, 1) := by decide +kernel
theorem dL_law_3214 : decode cL_law 3214 = .ok (.aload 4, 2) := by decide +kernel
theorem dL_law_3216 : decode cL_law 3216 = .ok (.iconst 0, 1) := by decide +kernel
theorem dL_law_3217 : decode cL_law 3217 = .ok (.daload, 1) := by decide +kernel
theorem dL_law_3218 : decode cL_law 3218 = .ok (.dcmp .l, 1) := by decide +kernel
theorem dL_law_3219 : decode cL_law 3219 = .ok (.ifCond .eq 11, 3) := by decide +kernel
theorem dL_law_3222 : decode cL_law 3222 = .ok (.fload 7, 2) := by decide +kernel
theorem dL_law_3224 : decode cL_law 3224 = .ok (.fload 7, 2) := by decide +kernel
theorem dL_law_3226 : decode cL_law 3226 = .ok (.fcmp .l, 1) := by decide +kernel
theorem dL_law_3227 : decode cL_law 3227 = .ok (.ifCond .ne 5, 3) := by decide +kernel
theorem dL_law_3230 : decode cL_law 3230 = .ok (.iconst 0, 1) := by decide +kernel
theorem dL_law_3231 : decode cL_law 3231 = .ok (.ireturn, 1) := by decide +kernel
theorem dL_law_3232 : decode cL_law 3232 = .ok (.goto 71, 3) := by decide +kernel
theorem dL_law_3235 : decode cL_law 3235 = .ok (.aload_n 1, 1) := by decide +kernel
theorem dL_law_3236 : decode cL_law 3236 = .ok (.invokevirtual 293, 3) := by decide +kernel
theorem dL_law_3239 : decode cL_law 3239 = .ok (.dstore 6, 2) := by decide +kernel
theorem dL_law_3241 : decode cL_law 3241 = .ok (.aload_n 2, 1) := by decide +kernel
theorem dL_law_3242 : decode cL_law 3242 = .ok (.invokevirtual 297, 3) := by decide +kernel
theorem dL_law_3245 : decode cL_law 3245 = .ok (.dstore 8, 2) := by decide +kernel
theorem dL_law_3247 : decode cL_law 3247 = .ok (.dload 6, 2) := by decide +kernel
theorem dL_law_3249 : decode cL_law 3249 = .ok (.dload 8, 2) := by decide +kernel
theorem dL_law_3251 : decode cL_law 3251 = .ok (.dcmp .l, 1) := by decide +kernel
theorem dL_law_3252 : decode cL_law 3252 = .ok (.ifCond .eq 21, 3) := by decide +kernel
theorem dL_law_3255 : decode cL_law 3255 = .ok (.dload 6, 2) := by decide +kernel
theorem dL_law_3257 : decode cL_law 3257 = .ok (.dload 6, 2) := by decide +kernel
theorem dL_law_3259 : decode cL_law 3259 = .ok (.dcmp .l, 1) := by decide +kernel
theorem dL_law_3260 : decode cL_law 3260 = .ok (.ifCond .eq 11, 3) := by decide +kernel
theorem dL_law_3263 : decode cL_law 3263 = .ok (.dload 8, 2) := by decide +kernel
theorem dL_law_3265 : decode cL_law 3265 = .ok (.dload 8, 2) := by decide +kernel
theorem dL_law_3267 : decode cL_law 3267 = .ok (.dcmp .l, 1) := by decide +kernel
theorem dL_law_3268 : decode cL_law 3268 = .ok (.ifCond .ne 5, 3) := by decide +kernel
theorem dL_law_3271 : decode cL_law 3271 = .ok (.iconst 0, 1) := by decide +kernel
theorem dL_law_3272 : decode cL_law 3272 = .ok (.ireturn, 1) := by decide +kernel
theorem dL_law_3273 : decode cL_law 3273 = .ok (.goto 30, 3) := by decide +kernel
theorem dL_law_3276 : decode cL_law 3276 = .ok (.aload_n 1, 1) := by decide +kernel
theorem dL_law_3277 : decode cL_law 3277 = .ok (.invokevirtual 298, 3) := by decide +kernel
theorem dL_law_3280 : decode cL_law 3280 = .ok (.aload_n 2, 1) := by decide +kernel
theorem dL_law_3281 : decode cL_law 3281 = .ok (.invokevirtual 302, 3) := by decide +kernel
theorem dL_law_3284 : decode cL_law 3284 = .ok (.lcmp, 1) := by decide +kernel
theorem dL_law_3285 : decode cL_law 3285 = .ok (.ifCond .eq 18, 3) := by decide +kernel
theorem dL_law_3288 : decode cL_law 3288 = .ok (.iconst 0, 1) := by decide +kernel
theorem dL_law_3289 : decode cL_law 3289 = .ok (.ireturn, 1) := by decide +kernel
theorem dL_law_3290 : decode cL_law 3290 = .ok (.aload_n 1, 1) := by decide +kernel
theorem dL_law_3291 : decode cL_law 3291 = .ok (.invokevirtual 303, 3) := by decide +kernel
theorem dL_law_3294 : decode cL_law 3294 = .ok (.aload_n 2, 1) := by decide +kernel
theorem dL_law_3295 : decode cL_law 3295 = .ok (.invokevirtual 307, 3) := by decide +kernel
theorem dL_law_3298 : decode cL_law 3298 = .ok (.if_icmp .eq 5, 3) := by decide +kernel
theorem dL_law_3301 : decode cL_law 3301 = .ok (.iconst 0, 1) := by decide +kernel
theorem dL_law_3302 : decode cL_law 3302 = .ok (.ireturn, 1) := by decide +kernel
theorem dL_law_3303 : decode cL_law 3303 = .ok (.iinc 5 6, 3) := by decide +kernel
theorem dL_law_3306 : decode cL_law 3306 = .ok (.goto (-3278), 3) := by decide +kernel
theorem dL_law_3309 : decode cL_law 3309 = .ok (.iconst 1, 1) := by decide +kernel
theorem dL_law_3310 : decode cL_law 3310 = .ok (.ireturn, 1) := by decide +kernel
abbrev vwCl : List vw_C := [(RJ0, TJ0, 2), (RJx00060, TJx00060, 6), (RX0, TX0, 1), (RX1, TX1, 6), (RX2, TX2, 6), (RX3, TX3, 1), (RX4, TX4, 2), (RX5, TX5, 8), (RX6, TX6, 7), (RX7, TX7, 21)]
