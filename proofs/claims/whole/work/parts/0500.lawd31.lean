theorem dL_law_2124 : decode cL_law 2124 = .ok (.iconst 1, 1) := by decide +kernel
theorem dL_law_2125 : decode cL_law 2125 = .ok (.iadd, 1) := by decide +kernel
theorem dL_law_2126 : decode cL_law 2126 = .ok (.iaload, 1) := by decide +kernel
theorem dL_law_2127 : decode cL_law 2127 = .ok (.invokevirtual 218, 3) := by decide +kernel
theorem dL_law_2130 : decode cL_law 2130 = .ok (.aload_n 2, 1) := by decide +kernel
theorem dL_law_2131 : decode cL_law 2131 = .ok (.aload_n 0, 1) := by decide +kernel
theorem dL_law_2132 : decode cL_law 2132 = .ok (.iload_n 3, 1) := by decide +kernel
theorem dL_law_2133 : decode cL_law 2133 = .ok (.iconst 1, 1) := by decide +kernel
theorem dL_law_2134 : decode cL_law 2134 = .ok (.iadd, 1) := by decide +kernel
theorem dL_law_2135 : decode cL_law 2135 = .ok (.iaload, 1) := by decide +kernel
theorem dL_law_2136 : decode cL_law 2136 = .ok (.invokevirtual 221, 3) := by decide +kernel
theorem dL_law_2139 : decode cL_law 2139 = .ok (.if_icmp .eq 168, 3) := by decide +kernel
theorem dL_law_2142 : decode cL_law 2142 = .ok (.iconst 0, 1) := by decide +kernel
theorem dL_law_2143 : decode cL_law 2143 = .ok (.ireturn, 1) := by decide +kernel
theorem dL_law_2144 : decode cL_law 2144 = .ok (.aload_n 1, 1) := by decide +kernel
theorem dL_law_2145 : decode cL_law 2145 = .ok (.aload_n 0, 1) := by decide +kernel
theorem dL_law_2146 : decode cL_law 2146 = .ok (.iload_n 3, 1) := by decide +kernel
theorem dL_law_2147 : decode cL_law 2147 = .ok (.iconst 1, 1) := by decide +kernel
theorem dL_law_2148 : decode cL_law 2148 = .ok (.iadd, 1) := by decide +kernel
theorem dL_law_2149 : decode cL_law 2149 = .ok (.iaload, 1) := by decide +kernel
theorem dL_law_2150 : decode cL_law 2150 = .ok (.aload_n 0, 1) := by decide +kernel
theorem dL_law_2151 : decode cL_law 2151 = .ok (.iload_n 3, 1) := by decide +kernel
theorem dL_law_2152 : decode cL_law 2152 = .ok (.iconst 2, 1) := by decide +kernel
theorem dL_law_2153 : decode cL_law 2153 = .ok (.iadd, 1) := by decide +kernel
theorem dL_law_2154 : decode cL_law 2154 = .ok (.iaload, 1) := by decide +kernel
theorem dL_law_2155 : decode cL_law 2155 = .ok (.ifCond .eq 7, 3) := by decide +kernel
theorem dL_law_2158 : decode cL_law 2158 = .ok (.iconst 1, 1) := by decide +kernel
theorem dL_law_2159 : decode cL_law 2159 = .ok (.goto 4, 3) := by decide +kernel
theorem dL_law_2162 : decode cL_law 2162 = .ok (.iconst 0, 1) := by decide +kernel
theorem dL_law_2163 : decode cL_law 2163 = .ok (.invokevirtual 222, 3) := by decide +kernel
theorem dL_law_2166 : decode cL_law 2166 = .ok (.aload_n 2, 1) := by decide +kernel
theorem dL_law_2167 : decode cL_law 2167 = .ok (.aload_n 0, 1) := by decide +kernel
theorem dL_law_2168 : decode cL_law 2168 = .ok (.iload_n 3, 1) := by decide +kernel
theorem dL_law_2169 : decode cL_law 2169 = .ok (.iconst 1, 1) := by decide +kernel
theorem dL_law_2170 : decode cL_law 2170 = .ok (.iadd, 1) := by decide +kernel
theorem dL_law_2171 : decode cL_law 2171 = .ok (.iaload, 1) := by decide +kernel
theorem dL_law_2172 : decode cL_law 2172 = .ok (.aload_n 0, 1) := by decide +kernel
theorem dL_law_2173 : decode cL_law 2173 = .ok (.iload_n 3, 1) := by decide +kernel
theorem dL_law_2174 : decode cL_law 2174 = .ok (.iconst 2, 1) := by decide +kernel
theorem dL_law_2175 : decode cL_law 2175 = .ok (.iadd, 1) := by decide +kernel
theorem dL_law_2176 : decode cL_law 2176 = .ok (.iaload, 1) := by decide +kernel
theorem dL_law_2177 : decode cL_law 2177 = .ok (.ifCond .eq 7, 3) := by decide +kernel
theorem dL_law_2180 : decode cL_law 2180 = .ok (.iconst 1, 1) := by decide +kernel
theorem dL_law_2181 : decode cL_law 2181 = .ok (.goto 4, 3) := by decide +kernel
theorem dL_law_2184 : decode cL_law 2184 = .ok (.iconst 0, 1) := by decide +kernel
theorem dL_law_2185 : decode cL_law 2185 = .ok (.invokevirtual 225, 3) := by decide +kernel
theorem dL_law_2188 : decode cL_law 2188 = .ok (.if_icmp .eq 119, 3) := by decide +kernel
theorem dL_law_2191 : decode cL_law 2191 = .ok (.iconst 0, 1) := by decide +kernel
theorem dL_law_2192 : decode cL_law 2192 = .ok (.ireturn, 1) := by decide +kernel
theorem dL_law_2193 : decode cL_law 2193 = .ok (.aload_n 1, 1) := by decide +kernel
