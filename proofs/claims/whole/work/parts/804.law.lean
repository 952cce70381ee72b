theorem dL_law__1908 : decode cL_law_ 1908 = .ok (.iconst 2, 1) := by decide +kernel
theorem dL_law__1909 : decode cL_law_ 1909 = .ok (.iadd, 1) := by decide +kernel
theorem dL_law__1910 : decode cL_law_ 1910 = .ok (.iaload, 1) := by decide +kernel
theorem dL_law__1911 : decode cL_law_ 1911 = .ok (.aload_n 3, 1) := by decide +kernel
theorem dL_law__1912 : decode cL_law_ 1912 = .ok (.invokestatic 193, 3) := by decide +kernel
theorem dL_law__1915 : decode cL_law_ 1915 = .ok (.istore 5, 2) := by decide +kernel
theorem dL_law__1917 : decode cL_law_ 1917 = .ok (.aload_n 2, 1) := by decide +kernel
theorem dL_law__1918 : decode cL_law_ 1918 = .ok (.aload_n 0, 1) := by decide +kernel
theorem dL_law__1919 : decode cL_law_ 1919 = .ok (.iload 4, 2) := by decide +kernel
theorem dL_law__1921 : decode cL_law_ 1921 = .ok (.iconst 1, 1) := by decide +kernel
theorem dL_law__1922 : decode cL_law_ 1922 = .ok (.iadd, 1) := by decide +kernel
theorem dL_law__1923 : decode cL_law_ 1923 = .ok (.iaload, 1) := by decide +kernel
theorem dL_law__1924 : decode cL_law_ 1924 = .ok (.aload_n 0, 1) := by decide +kernel
theorem dL_law__1925 : decode cL_law_ 1925 = .ok (.iload 4, 2) := by decide +kernel
theorem dL_law__1927 : decode cL_law_ 1927 = .ok (.iconst 2, 1) := by decide +kernel
theorem dL_law__1928 : decode cL_law_ 1928 = .ok (.iadd, 1) := by decide +kernel
theorem dL_law__1929 : decode cL_law_ 1929 = .ok (.iaload, 1) := by decide +kernel
theorem dL_law__1930 : decode cL_law_ 1930 = .ok (.invokevirtual 195, 3) := by decide +kernel
theorem dL_law__1933 : decode cL_law_ 1933 = .ok (.istore 6, 2) := by decide +kernel
theorem dL_law__1935 : decode cL_law_ 1935 = .ok (.aload_n 2, 1) := by decide +kernel
theorem dL_law__1936 : decode cL_law_ 1936 = .ok (.invokevirtual 124, 3) := by decide +kernel
theorem dL_law__1939 : decode cL_law_ 1939 = .ok (.iload 5, 2) := by decide +kernel
theorem dL_law__1941 : decode cL_law_ 1941 = .ok (.if_icmp .eq 5, 3) := by decide +kernel
theorem dL_law__1944 : decode cL_law_ 1944 = .ok (.iconst 0, 1) := by decide +kernel
theorem dL_law__1945 : decode cL_law_ 1945 = .ok (.ireturn, 1) := by decide +kernel
theorem dL_law__1946 : decode cL_law_ 1946 = .ok (.iload 5, 2) := by decide +kernel
theorem dL_law__1948 : decode cL_law_ 1948 = .ok (.ifCond .ne 15, 3) := by decide +kernel
theorem dL_law__1951 : decode cL_law_ 1951 = .ok (.aload_n 3, 1) := by decide +kernel
theorem dL_law__1952 : decode cL_law_ 1952 = .ok (.iconst 0, 1) := by decide +kernel
theorem dL_law__1953 : decode cL_law_ 1953 = .ok (.laload, 1) := by decide +kernel
theorem dL_law__1954 : decode cL_law_ 1954 = .ok (.iload 6, 2) := by decide +kernel
theorem dL_law__1956 : decode cL_law_ 1956 = .ok (.i2l, 1) := by decide +kernel
theorem dL_law__1957 : decode cL_law_ 1957 = .ok (.lcmp, 1) := by decide +kernel
theorem dL_law__1958 : decode cL_law_ 1958 = .ok (.ifCond .eq 5, 3) := by decide +kernel
theorem dL_law__1961 : decode cL_law_ 1961 = .ok (.iconst 0, 1) := by decide +kernel
theorem dL_law__1962 : decode cL_law_ 1962 = .ok (.ireturn, 1) := by decide +kernel
theorem dL_law__1963 : decode cL_law_ 1963 = .ok (.goto 676, 3) := by decide +kernel
theorem dL_law__1966 : decode cL_law_ 1966 = .ok (.aload_n 1, 1) := by decide +kernel
theorem dL_law__1967 : decode cL_law_ 1967 = .ok (.aload_n 0, 1) := by decide +kernel
theorem dL_law__1968 : decode cL_law_ 1968 = .ok (.iload 4, 2) := by decide +kernel
theorem dL_law__1970 : decode cL_law_ 1970 = .ok (.iconst 1, 1) := by decide +kernel
theorem dL_law__1971 : decode cL_law_ 1971 = .ok (.iadd, 1) := by decide +kernel
theorem dL_law__1972 : decode cL_law_ 1972 = .ok (.iaload, 1) := by decide +kernel
theorem dL_law__1973 : decode cL_law_ 1973 = .ok (.aload_n 0, 1) := by decide +kernel
theorem dL_law__1974 : decode cL_law_ 1974 = .ok (.iload 4, 2) := by decide +kernel
theorem dL_law__1976 : decode cL_law_ 1976 = .ok (.iconst 2, 1) := by decide +kernel
theorem dL_law__1977 : decode cL_law_ 1977 = .ok (.iadd, 1) := by decide +kernel
theorem dL_law__1978 : decode cL_law_ 1978 = .ok (.iaload, 1) := by decide +kernel
theorem dL_law__1979 : decode cL_law_ 1979 = .ok (.aload_n 0, 1) := by decide +kernel
theorem dL_law__1980 : decode cL_law_ 1980 = .ok (.iload 4, 2) := by decide +kernel
theorem dL_law__1982 : decode cL_law_ 1982 = .ok (.iconst 3, 1) := by decide +kernel
theorem dL_law__1983 : decode cL_law_ 1983 = .ok (.iadd, 1) := by decide +kernel
theorem dL_law__1984 : decode cL_law_ 1984 = .ok (.iaload, 1) := by decide +kernel
theorem dL_law__1985 : decode cL_law_ 1985 = .ok (.aload_n 0, 1) := by decide +kernel
theorem dL_law__1986 : decode cL_law_ 1986 = .ok (.iload 4, 2) := by decide +kernel
theorem dL_law__1988 : decode cL_law_ 1988 = .ok (.iconst 4, 1) := by decide +kernel
theorem dL_law__1989 : decode cL_law_ 1989 = .ok (.iadd, 1) := by decide +kernel
theorem dL_law__1990 : decode cL_law_ 1990 = .ok (.iaload, 1) := by decide +kernel
theorem dL_law__1991 : decode cL_law_ 1991 = .ok (.aload_n 0, 1) := by decide +kernel
theorem dL_law__1992 : decode cL_law_ 1992 = .ok (.iload 4, 2) := by decide +kernel
theorem dL_law__1994 : decode cL_law_ 1994 = .ok (.iconst 5, 1) := by decide +kernel
theorem dL_law__1995 : decode cL_law_ 1995 = .ok (.iadd, 1) := by decide +kernel
theorem dL_law__1996 : decode cL_law_ 1996 = .ok (.iaload, 1) := by decide +kernel
theorem dL_law__1997 : decode cL_law_ 1997 = .ok (.ifCond .eq 7, 3) := by decide +kernel
theorem dL_law__2000 : decode cL_law_ 2000 = .ok (.iconst 1, 1) := by decide +kernel
theorem dL_law__2001 : decode cL_law_ 2001 = .ok (.goto 4, 3) := by decide +kernel
theorem dL_law__2004 : decode cL_law_ 2004 = .ok (.iconst 0, 1) := by decide +kernel
theorem dL_law__2005 : decode cL_law_ 2005 = .ok (.aload_n 3, 1) := by decide +kernel
theorem dL_law__2006 : decode cL_law_ 2006 = .ok (.invokestatic 196, 3) := by decide +kernel
theorem dL_law__2009 : decode cL_law_ 2009 = .ok (.istore 5, 2) := by decide +kernel
theorem dL_law__2011 : decode cL_law_ 2011 = .ok (.aload_n 2, 1) := by decide +kernel
theorem dL_law__2012 : decode cL_law_ 2012 = .ok (.aload_n 0, 1) := by decide +kernel
theorem dL_law__2013 : decode cL_law_ 2013 = .ok (.iload 4, 2) := by decide +kernel
theorem dL_law__2015 : decode cL_law_ 2015 = .ok (.iconst 1, 1) := by decide +kernel
theorem dL_law__2016 : decode cL_law_ 2016 = .ok (.iadd, 1) := by decide +kernel
theorem dL_law__2017 : decode cL_law_ 2017 = .ok (.iaload, 1) := by decide +kernel
theorem dL_law__2018 : decode cL_law_ 2018 = .ok (.aload_n 0, 1) := by decide +kernel
theorem dL_law__2019 : decode cL_law_ 2019 = .ok (.iload 4, 2) := by decide +kernel
theorem dL_law__2021 : decode cL_law_ 2021 = .ok (.iconst 2, 1) := by decide +kernel
theorem dL_law__2022 : decode cL_law_ 2022 = .ok (.iadd, 1) := by decide +kernel
theorem dL_law__2023 : decode cL_law_ 2023 = .ok (.iaload, 1) := by decide +kernel
theorem dL_law__2024 : decode cL_law_ 2024 = .ok (.aload_n 0, 1) := by decide +kernel
theorem dL_law__2025 : decode cL_law_ 2025 = .ok (.iload 4, 2) := by decide +kernel
theorem dL_law__2027 : decode cL_law_ 2027 = .ok (.iconst 3, 1) := by decide +kernel
theorem dL_law__2028 : decode cL_law_ 2028 = .ok (.iadd, 1) := by decide +kernel
theorem dL_law__2029 : decode cL_law_ 2029 = .ok (.iaload, 1) := by decide +kernel
theorem dL_law__2030 : decode cL_law_ 2030 = .ok (.aload_n 0, 1) := by decide +kernel
theorem dL_law__2031 : decode cL_law_ 2031 = .ok (.iload 4, 2) := by decide +kernel
theorem dL_law__2033 : decode cL_law_ 2033 = .ok (.iconst 4, 1) := by decide +kernel
theorem dL_law__2034 : decode cL_law_ 2034 = .ok (.iadd, 1) := by decide +kernel
theorem dL_law__2035 : decode cL_law_ 2035 = .ok (.iaload, 1) := by decide +kernel
theorem dL_law__2036 : decode cL_law_ 2036 = .ok (.aload_n 0, 1) := by decide +kernel
theorem dL_law__2037 : decode cL_law_ 2037 = .ok (.iload 4, 2) := by decide +kernel
theorem dL_law__2039 : decode cL_law_ 2039 = .ok (.iconst 5, 1) := by decide +kernel
theorem dL_law__2040 : decode cL_law_ 2040 = .ok (.iadd, 1) := by decide +kernel
theorem dL_law__2041 : decode cL_law_ 2041 = .ok (.iaload, 1) := by decide +kernel
theorem dL_law__2042 : decode cL_law_ 2042 = .ok (.ifCond .eq 7, 3) := by decide +kernel
theorem dL_law__2045 : decode cL_law_ 2045 = .ok (.iconst 1, 1) := by decide +kernel
theorem dL_law__2046 : decode cL_law_ 2046 = .ok (.goto 4, 3) := by decide +kernel
theorem dL_law__2049 : decode cL_law_ 2049 = .ok (.iconst 0, 1) := by decide +kernel
theorem dL_law__2050 : decode cL_law_ 2050 = .ok (.invokevirtual 198, 3) := by decide +kernel
theorem dL_law__2053 : decode cL_law_ 2053 = .ok (.istore 6, 2) := by decide +kernel
theorem dL_law__2055 : decode cL_law_ 2055 = .ok (.aload_n 2, 1) := by decide +kernel
theorem dL_law__2056 : decode cL_law_ 2056 = .ok (.invokevirtual 124, 3) := by decide +kernel
theorem dL_law__2059 : decode cL_law_ 2059 = .ok (.iload 5, 2) := by decide +kernel
theorem dL_law__2061 : decode cL_law_ 2061 = .ok (.if_icmp .eq 5, 3) := by decide +kernel
theorem dL_law__2064 : decode cL_law_ 2064 = .ok (.iconst 0, 1) := by decide +kernel
theorem dL_law__2065 : decode cL_law_ 2065 = .ok (.ireturn, 1) := by decide +kernel
theorem dL_law__2066 : decode cL_law_ 2066 = .ok (.iload 5, 2) := by decide +kernel
theorem dL_law__2068 : decode cL_law_ 2068 = .ok (.ifCond .ne 15, 3) := by decide +kernel
theorem dL_law__2071 : decode cL_law_ 2071 = .ok (.aload_n 3, 1) := by decide +kernel
theorem dL_law__2072 : decode cL_law_ 2072 = .ok (.iconst 0, 1) := by decide +kernel
theorem dL_law__2073 : decode cL_law_ 2073 = .ok (.laload, 1) := by decide +kernel
theorem dL_law__2074 : decode cL_law_ 2074 = .ok (.iload 6, 2) := by decide +kernel
theorem dL_law__2076 : decode cL_law_ 2076 = .ok (.i2l, 1) := by decide +kernel
theorem dL_law__2077 : decode cL_law_ 2077 = .ok (.lcmp, 1) := by decide +kernel
theorem dL_law__2078 : decode cL_law_ 2078 = .ok (.ifCond .eq 5, 3) := by decide +kernel
theorem dL_law__2081 : decode cL_law_ 2081 = .ok (.iconst 0, 1) := by decide +kernel
theorem dL_law__2082 : decode cL_law_ 2082 = .ok (.ireturn, 1) := by decide +kernel
theorem dL_law__2083 : decode cL_law_ 2083 = .ok (.goto 556, 3) := by decide +kernel
theorem dL_law__2086 : decode cL_law_ 2086 = .ok (.aload_n 1, 1) := by decide +kernel
theorem dL_law__2087 : decode cL_law_ 2087 = .ok (.aload_n 0, 1) := by decide +kernel
theorem dL_law__2088 : decode cL_law_ 2088 = .ok (.iload 4, 2) := by decide +kernel
theorem dL_law__2090 : decode cL_law_ 2090 = .ok (.iconst 1, 1) := by decide +kernel
theorem dL_law__2091 : decode cL_law_ 2091 = .ok (.iadd, 1) := by decide +kernel
theorem dL_law__2092 : decode cL_law_ 2092 = .ok (.iaload, 1) := by decide +kernel
theorem dL_law__2093 : decode cL_law_ 2093 = .ok (.aload_n 3, 1) := by decide +kernel
theorem dL_law__2094 : decode cL_law_ 2094 = .ok (.invokestatic 199, 3) := by decide +kernel
theorem dL_law__2097 : decode cL_law_ 2097 = .ok (.istore 5, 2) := by decide +kernel
theorem dL_law__2099 : decode cL_law_ 2099 = .ok (.aload_n 2, 1) := by decide +kernel
theorem dL_law__2100 : decode cL_law_ 2100 = .ok (.aload_n 0, 1) := by decide +kernel
theorem dL_law__2101 : decode cL_law_ 2101 = .ok (.iload 4, 2) := by decide +kernel
theorem dL_law__2103 : decode cL_law_ 2103 = .ok (.iconst 1, 1) := by decide +kernel
theorem dL_law__2104 : decode cL_law_ 2104 = .ok (.iadd, 1) := by decide +kernel
theorem dL_law__2105 : decode cL_law_ 2105 = .ok (.iaload, 1) := by decide +kernel
theorem dL_law__2106 : decode cL_law_ 2106 = .ok (.invokevirtual 201, 3) := by decide +kernel
theorem dL_law__2109 : decode cL_law_ 2109 = .ok (.istore 6, 2) := by decide +kernel
theorem dL_law__2111 : decode cL_law_ 2111 = .ok (.aload_n 2, 1) := by decide +kernel
theorem dL_law__2112 : decode cL_law_ 2112 = .ok (.invokevirtual 124, 3) := by decide +kernel
theorem dL_law__2115 : decode cL_law_ 2115 = .ok (.iload 5, 2) := by decide +kernel
theorem dL_law__2117 : decode cL_law_ 2117 = .ok (.if_icmp .eq 5, 3) := by decide +kernel
theorem dL_law__2120 : decode cL_law_ 2120 = .ok (.iconst 0, 1) := by decide +kernel
theorem dL_law__2121 : decode cL_law_ 2121 = .ok (.ireturn, 1) := by decide +kernel
theorem dL_law__2122 : decode cL_law_ 2122 = .ok (.iload 5, 2) := by decide +kernel
theorem dL_law__2124 : decode cL_law_ 2124 = .ok (.ifCond .ne 15, 3) := by decide +kernel
theorem dL_law__2127 : decode cL_law_ 2127 = .ok (.aload_n 3, 1) := by decide +kernel
theorem dL_law__2128 : decode cL_law_ 2128 = .ok (.iconst 0, 1) := by decide +kernel
theorem dL_law__2129 : decode cL_law_ 2129 = .ok (.laload, 1) := by decide +kernel
theorem dL_law__2130 : decode cL_law_ 2130 = .ok (.iload 6, 2) := by decide +kernel
theorem dL_law__2132 : decode cL_law_ 2132 = .ok (.i2l, 1) := by decide +kernel
theorem dL_law__2133 : decode cL_law_ 2133 = .ok (.lcmp, 1) := by decide +kernel
theorem dL_law__2134 : decode cL_law_ 2134 = .ok (.ifCond .eq 5, 3) := by decide +kernel
theorem dL_law__2137 : decode cL_law_ 2137 = .ok (.iconst 0, 1) := by decide +kernel
theorem dL_law__2138 : decode cL_law_ 2138 = .ok (.ireturn, 1) := by decide +kernel
theorem dL_law__2139 : decode cL_law_ 2139 = .ok (.goto 500, 3) := by decide +kernel
theorem dL_law__2142 : decode cL_law_ 2142 = .ok (.aload_n 1, 1) := by decide +kernel
theorem dL_law__2143 : decode cL_law_ 2143 = .ok (.aload_n 0, 1) := by decide +kernel
theorem dL_law__2144 : decode cL_law_ 2144 = .ok (.iload 4, 2) := by decide +kernel
theorem dL_law__2146 : decode cL_law_ 2146 = .ok (.iconst 1, 1) := by decide +kernel
theorem dL_law__2147 : decode cL_law_ 2147 = .ok (.iadd, 1) := by decide +kernel
theorem dL_law__2148 : decode cL_law_ 2148 = .ok (.iaload, 1) := by decide +kernel
theorem dL_law__2149 : decode cL_law_ 2149 = .ok (.aload_n 0, 1) := by decide +kernel
theorem dL_law__2150 : decode cL_law_ 2150 = .ok (.iload 4, 2) := by decide +kernel
theorem dL_law__2152 : decode cL_law_ 2152 = .ok (.iconst 2, 1) := by decide +kernel
theorem dL_law__2153 : decode cL_law_ 2153 = .ok (.iadd, 1) := by decide +kernel
theorem dL_law__2154 : decode cL_law_ 2154 = .ok (.iaload, 1) := by decide +kernel
theorem dL_law__2155 : decode cL_law_ 2155 = .ok (.aload_n 0, 1) := by decide +kernel
theorem dL_law__2156 : decode cL_law_ 2156 = .ok (.iload 4, 2) := by decide +kernel
theorem dL_law__2158 : decode cL_law_ 2158 = .ok (.iconst 3, 1) := by decide +kernel
theorem dL_law__2159 : decode cL_law_ 2159 = .ok (.iadd, 1) := by decide +kernel
theorem dL_law__2160 : decode cL_law_ 2160 = .ok (.iaload, 1) := by decide +kernel
theorem dL_law__2161 : decode cL_law_ 2161 = .ok (.aload_n 3, 1) := by decide +kernel
theorem dL_law__2162 : decode cL_law_ 2162 = .ok (.invokestatic 202, 3) := by decide +kernel
theorem dL_law__2165 : decode cL_law_ 2165 = .ok (.istore 5, 2) := by decide +kernel
theorem dL_law__2167 : decode cL_law_ 2167 = .ok (.aload_n 2, 1) := by decide +kernel
theorem dL_law__2168 : decode cL_law_ 2168 = .ok (.aload_n 0, 1) := by decide +kernel
theorem dL_law__2169 : decode cL_law_ 2169 = .ok (.iload 4, 2) := by decide +kernel
theorem dL_law__2171 : decode cL_law_ 2171 = .ok (.iconst 1, 1) := by decide +kernel
theorem dL_law__2172 : decode cL_law_ 2172 = .ok (.iadd, 1) := by decide +kernel
theorem dL_law__2173 : decode cL_law_ 2173 = .ok (.iaload, 1) := by decide +kernel
theorem dL_law__2174 : decode cL_law_ 2174 = .ok (.aload_n 0, 1) := by decide +kernel
theorem dL_law__2175 : decode cL_law_ 2175 = .ok (.iload 4, 2) := by decide +kernel
theorem dL_law__2177 : decode cL_law_ 2177 = .ok (.iconst 2, 1) := by decide +kernel
theorem dL_law__2178 : decode cL_law_ 2178 = .ok (.iadd, 1) := by decide +kernel
theorem dL_law__2179 : decode cL_law_ 2179 = .ok (.iaload, 1) := by decide +kernel
theorem dL_law__2180 : decode cL_law_ 2180 = .ok (.aload_n 0, 1) := by decide +kernel
theorem dL_law__2181 : decode cL_law_ 2181 = .ok (.iload 4, 2) := by decide +kernel
theorem dL_law__2183 : decode cL_law_ 2183 = .ok (.iconst 3, 1) := by decide +kernel
theorem dL_law__2184 : decode cL_law_ 2184 = .ok (.iadd, 1) := by decide +kernel
theorem dL_law__2185 : decode cL_law_ 2185 = .ok (.iaload, 1) := by decide +kernel
theorem dL_law__2186 : decode cL_law_ 2186 = .ok (.invokevirtual 204, 3) := by decide +kernel
theorem dL_law__2189 : decode cL_law_ 2189 = .ok (.istore 6, 2) := by decide +kernel
theorem dL_law__2191 : decode cL_law_ 2191 = .ok (.aload_n 2, 1) := by decide +kernel
theorem dL_law__2192 : decode cL_law_ 2192 = .ok (.invokevirtual 124, 3) := by decide +kernel
theorem dL_law__2195 : decode cL_law_ 2195 = .ok (.iload 5, 2) := by decide +kernel
theorem dL_law__2197 : decode cL_law_ 2197 = .ok (.if_icmp .eq 5, 3) := by decide +kernel
theorem dL_law__2200 : decode cL_law_ 2200 = .ok (.iconst 0, 1) := by decide +kernel
theorem dL_law__2201 : decode cL_law_ 2201 = .ok (.ireturn, 1) := by decide +kernel
theorem dL_law__2202 : decode cL_law_ 2202 = .ok (.iload 5, 2) := by decide +kernel
theorem dL_law__2204 : decode cL_law_ 2204 = .ok (.ifCond .ne 15, 3) := by decide +kernel
theorem dL_law__2207 : decode cL_law_ 2207 = .ok (.aload_n 3, 1) := by decide +kernel
theorem dL_law__2208 : decode cL_law_ 2208 = .ok (.iconst 0, 1) := by decide +kernel
theorem dL_law__2209 : decode cL_law_ 2209 = .ok (.laload, 1) := by decide +kernel
theorem dL_law__2210 : decode cL_law_ 2210 = .ok (.iload 6, 2) := by decide +kernel
theorem dL_law__2212 : decode cL_law_ 2212 = .ok (.i2l, 1) := by decide +kernel
theorem dL_law__2213 : decode cL_law_ 2213 = .ok (.lcmp, 1) := by decide +kernel
theorem dL_law__2214 : decode cL_law_ 2214 = .ok (.ifCond .eq 5, 3) := by decide +kernel
theorem dL_law__2217 : decode cL_law_ 2217 = .ok (.iconst 0, 1) := by decide +kernel
theorem dL_law__2218 : decode cL_law_ 2218 = .ok (.ireturn, 1) := by decide +kernel
theorem dL_law__2219 : decode cL_law_ 2219 = .ok (.goto 420, 3) := by decide +kernel
theorem dL_law__2222 : decode cL_law_ 2222 = .ok (.aload_n 1, 1) := by decide +kernel
theorem dL_law__2223 : decode cL_law_ 2223 = .ok (.aload_n 0, 1) := by decide +kernel
theorem dL_law__2224 : decode cL_law_ 2224 = .ok (.iload 4, 2) := by decide +kernel
theorem dL_law__2226 : decode cL_law_ 2226 = .ok (.iconst 1, 1) := by decide +kernel
theorem dL_law__2227 : decode cL_law_ 2227 = .ok (.iadd, 1) := by decide +kernel
theorem dL_law__2228 : decode cL_law_ 2228 = .ok (.iaload, 1) := by decide +kernel
theorem dL_law__2229 : decode cL_law_ 2229 = .ok (.aload_n 3, 1) := by decide +kernel
theorem dL_law__2230 : decode cL_law_ 2230 = .ok (.invokestatic 205, 3) := by decide +kernel
theorem dL_law__2233 : decode cL_law_ 2233 = .ok (.istore 5, 2) := by decide +kernel
theorem dL_law__2235 : decode cL_law_ 2235 = .ok (.aload_n 2, 1) := by decide +kernel
theorem dL_law__2236 : decode cL_law_ 2236 = .ok (.aload_n 0, 1) := by decide +kernel
theorem dL_law__2237 : decode cL_law_ 2237 = .ok (.iload 4, 2) := by decide +kernel
theorem dL_law__2239 : decode cL_law_ 2239 = .ok (.iconst 1, 1) := by decide +kernel
theorem dL_law__2240 : decode cL_law_ 2240 = .ok (.iadd, 1) := by decide +kernel
theorem dL_law__2241 : decode cL_law_ 2241 = .ok (.iaload, 1) := by decide +kernel
theorem dL_law__2242 : decode cL_law_ 2242 = .ok (.invokevirtual 207, 3) := by decide +kernel
theorem dL_law__2245 : decode cL_law_ 2245 = .ok (.istore 6, 2) := by decide +kernel
theorem dL_law__2247 : decode cL_law_ 2247 = .ok (.aload_n 2, 1) := by decide +kernel
theorem dL_law__2248 : decode cL_law_ 2248 = .ok (.invokevirtual 124, 3) := by decide +kernel
theorem dL_law__2251 : decode cL_law_ 2251 = .ok (.iload 5, 2) := by decide +kernel
theorem dL_law__2253 : decode cL_law_ 2253 = .ok (.if_icmp .eq 5, 3) := by decide +kernel
theorem dL_law__2256 : decode cL_law_ 2256 = .ok (.iconst 0, 1) := by decide +kernel
theorem dL_law__2257 : decode cL_law_ 2257 = .ok (.ireturn, 1) := by decide +kernel
theorem dL_law__2258 : decode cL_law_ 2258 = .ok (.iload 5, 2) := by decide +kernel
theorem dL_law__2260 : decode cL_law_ 2260 = .ok (.ifCond .ne 15, 3) := by decide +kernel
theorem dL_law__2263 : decode cL_law_ 2263 = .ok (.aload_n 3, 1) := by decide +kernel
theorem dL_law__2264 : decode cL_law_ 2264 = .ok (.iconst 0, 1) := by decide +kernel
theorem dL_law__2265 : decode cL_law_ 2265 = .ok (.laload, 1) := by decide +kernel
theorem dL_law__2266 : decode cL_law_ 2266 = .ok (.iload 6, 2) := by decide +kernel
theorem dL_law__2268 : decode cL_law_ 2268 = .ok (.i2l, 1) := by decide +kernel
theorem dL_law__2269 : decode cL_law_ 2269 = .ok (.lcmp, 1) := by decide +kernel
theorem dL_law__2270 : decode cL_law_ 2270 = .ok (.ifCond .eq 5, 3) := by decide +kernel
theorem dL_law__2273 : decode cL_law_ 2273 = .ok (.iconst 0, 1) := by decide +kernel
theorem dL_law__2274 : decode cL_law_ 2274 = .ok (.ireturn, 1) := by decide +kernel
theorem dL_law__2275 : decode cL_law_ 2275 = .ok (.goto 364, 3) := by decide +kernel
theorem dL_law__2278 : decode cL_law_ 2278 = .ok (.aload_n 1, 1) := by decide +kernel
theorem dL_law__2279 : decode cL_law_ 2279 = .ok (.aload_n 0, 1) := by decide +kernel
theorem dL_law__2280 : decode cL_law_ 2280 = .ok (.iload 4, 2) := by decide +kernel
theorem dL_law__2282 : decode cL_law_ 2282 = .ok (.iconst 1, 1) := by decide +kernel
theorem dL_law__2283 : decode cL_law_ 2283 = .ok (.iadd, 1) := by decide +kernel
theorem dL_law__2284 : decode cL_law_ 2284 = .ok (.iaload, 1) := by decide +kernel
theorem dL_law__2285 : decode cL_law_ 2285 = .ok (.aload_n 0, 1) := by decide +kernel
theorem dL_law__2286 : decode cL_law_ 2286 = .ok (.iload 4, 2) := by decide +kernel
theorem dL_law__2288 : decode cL_law_ 2288 = .ok (.iconst 2, 1) := by decide +kernel
theorem dL_law__2289 : decode cL_law_ 2289 = .ok (.iadd, 1) := by decide +kernel
theorem dL_law__2290 : decode cL_law_ 2290 = .ok (.iaload, 1) := by decide +kernel
theorem dL_law__2291 : decode cL_law_ 2291 = .ok (.aload_n 0, 1) := by decide +kernel
theorem dL_law__2292 : decode cL_law_ 2292 = .ok (.iload 4, 2) := by decide +kernel
theorem dL_law__2294 : decode cL_law_ 2294 = .ok (.iconst 3, 1) := by decide +kernel
theorem dL_law__2295 : decode cL_law_ 2295 = .ok (.iadd, 1) := by decide +kernel
theorem dL_law__2296 : decode cL_law_ 2296 = .ok (.iaload, 1) := by decide +kernel
theorem dL_law__2297 : decode cL_law_ 2297 = .ok (.aload_n 3, 1) := by decide +kernel
theorem dL_law__2298 : decode cL_law_ 2298 = .ok (.invokestatic 208, 3) := by decide +kernel
theorem dL_law__2301 : decode cL_law_ 2301 = .ok (.istore 5, 2) := by decide +kernel
theorem dL_law__2303 : decode cL_law_ 2303 = .ok (.aload_n 2, 1) := by decide +kernel
theorem dL_law__2304 : decode cL_law_ 2304 = .ok (.aload_n 0, 1) := by decide +kernel
theorem dL_law__2305 : decode cL_law_ 2305 = .ok (.iload 4, 2) := by decide +kernel
theorem dL_law__2307 : decode cL_law_ 2307 = .ok (.iconst 1, 1) := by decide +kernel
theorem dL_law__2308 : decode cL_law_ 2308 = .ok (.iadd, 1) := by decide +kernel
theorem dL_law__2309 : decode cL_law_ 2309 = .ok (.iaload, 1) := by decide +kernel
theorem dL_law__2310 : decode cL_law_ 2310 = .ok (.aload_n 0, 1) := by decide +kernel
theorem dL_law__2311 : decode cL_law_ 2311 = .ok (.iload 4, 2) := by decide +kernel
theorem dL_law__2313 : decode cL_law_ 2313 = .ok (.iconst 2, 1) := by decide +kernel
theorem dL_law__2314 : decode cL_law_ 2314 = .ok (.iadd, 1) := by decide +kernel
theorem dL_law__2315 : decode cL_law_ 2315 = .ok (.iaload, 1) := by decide +kernel
theorem dL_law__2316 : decode cL_law_ 2316 = .ok (.aload_n 0, 1) := by decide +kernel
theorem dL_law__2317 : decode cL_law_ 2317 = .ok (.iload 4, 2) := by decide +kernel
theorem dL_law__2319 : decode cL_law_ 2319 = .ok (.iconst 3, 1) := by decide +kernel
theorem dL_law__2320 : decode cL_law_ 2320 = .ok (.iadd, 1) := by decide +kernel
theorem dL_law__2321 : decode cL_law_ 2321 = .ok (.iaload, 1) := by decide +kernel
theorem dL_law__2322 : decode cL_law_ 2322 = .ok (.invokevirtual 210, 3) := by decide +kernel
theorem dL_law__2325 : decode cL_law_ 2325 = .ok (.istore 6, 2) := by decide +kernel
theorem dL_law__2327 : decode cL_law_ 2327 = .ok (.aload_n 2, 1) := by decide +kernel
theorem dL_law__2328 : decode cL_law_ 2328 = .ok (.invokevirtual 124, 3) := by decide +kernel
theorem dL_law__2331 : decode cL_law_ 2331 = .ok (.iload 5, 2) := by decide +kernel
theorem dL_law__2333 : decode cL_law_ 2333 = .ok (.if_icmp .eq 5, 3) := by decide +kernel
theorem dL_law__2336 : decode cL_law_ 2336 = .ok (.iconst 0, 1) := by decide +kernel
theorem dL_law__2337 : decode cL_law_ 2337 = .ok (.ireturn, 1) := by decide +kernel
theorem dL_law__2338 : decode cL_law_ 2338 = .ok (.iload 5, 2) := by decide +kernel
theorem dL_law__2340 : decode cL_law_ 2340 = .ok (.ifCond .ne 15, 3) := by decide +kernel
theorem dL_law__2343 : decode cL_law_ 2343 = .ok (.aload_n 3, 1) := by decide +kernel
theorem dL_law__2344 : decode cL_law_ 2344 = .ok (.iconst 0, 1) := by decide +kernel
theorem dL_law__2345 : decode cL_law_ 2345 = .ok (.laload, 1) := by decide +kernel
theorem dL_law__2346 : decode cL_law_ 2346 = .ok (.iload 6, 2) := by decide +kernel
theorem dL_law__2348 : decode cL_law_ 2348 = .ok (.i2l, 1) := by decide +kernel
theorem dL_law__2349 : decode cL_law_ 2349 = .ok (.lcmp, 1) := by decide +kernel
theorem dL_law__2350 : decode cL_law_ 2350 = .ok (.ifCond .eq 5, 3) := by decide +kernel
theorem dL_law__2353 : decode cL_law_ 2353 = .ok (.iconst 0, 1) := by decide +kernel
theorem dL_law__2354 : decode cL_law_ 2354 = .ok (.ireturn, 1) := by decide +kernel
theorem dL_law__2355 : decode cL_law_ 2355 = .ok (.goto 284, 3) := by decide +kernel
