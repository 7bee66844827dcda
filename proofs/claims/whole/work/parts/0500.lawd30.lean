theorem dL_law_2054 : decode cL_law 2054 = .ok (.iaload, 1) := by decide +kernel
theorem dL_law_2055 : decode cL_law 2055 = .ok (.invokevirtual 210, 3) := by decide +kernel
theorem dL_law_2058 : decode cL_law 2058 = .ok (.aload_n 2, 1) := by decide +kernel
theorem dL_law_2059 : decode cL_law 2059 = .ok (.aload_n 0, 1) := by decide +kernel
theorem dL_law_2060 : decode cL_law 2060 = .ok (.iload_n 3, 1) := by decide +kernel
theorem dL_law_2061 : decode cL_law 2061 = .ok (.iconst 1, 1) := by decide +kernel
theorem dL_law_2062 : decode cL_law 2062 = .ok (.iadd, 1) := by decide +kernel
theorem dL_law_2063 : decode cL_law 2063 = .ok (.iaload, 1) := by decide +kernel
theorem dL_law_2064 : decode cL_law 2064 = .ok (.invokevirtual 213, 3) := by decide +kernel
theorem dL_law_2067 : decode cL_law 2067 = .ok (.if_icmp .eq 240, 3) := by decide +kernel
theorem dL_law_2070 : decode cL_law 2070 = .ok (.iconst 0, 1) := by decide +kernel
theorem dL_law_2071 : decode cL_law 2071 = .ok (.ireturn, 1) := by decide +kernel
theorem dL_law_2072 : decode cL_law 2072 = .ok (.aload_n 1, 1) := by decide +kernel
theorem dL_law_2073 : decode cL_law 2073 = .ok (.aload_n 0, 1) := by decide +kernel
theorem dL_law_2074 : decode cL_law 2074 = .ok (.iload_n 3, 1) := by decide +kernel
theorem dL_law_2075 : decode cL_law 2075 = .ok (.iconst 1, 1) := by decide +kernel
theorem dL_law_2076 : decode cL_law 2076 = .ok (.iadd, 1) := by decide +kernel
theorem dL_law_2077 : decode cL_law 2077 = .ok (.iaload, 1) := by decide +kernel
theorem dL_law_2078 : decode cL_law 2078 = .ok (.aload_n 0, 1) := by decide +kernel
theorem dL_law_2079 : decode cL_law 2079 = .ok (.iload_n 3, 1) := by decide +kernel
theorem dL_law_2080 : decode cL_law 2080 = .ok (.iconst 2, 1) := by decide +kernel
theorem dL_law_2081 : decode cL_law 2081 = .ok (.iadd, 1) := by decide +kernel
theorem dL_law_2082 : decode cL_law 2082 = .ok (.iaload, 1) := by decide +kernel
theorem dL_law_2083 : decode cL_law 2083 = .ok (.ifCond .eq 7, 3) := by decide +kernel
theorem dL_law_2086 : decode cL_law 2086 = .ok (.iconst 1, 1) := by decide +kernel
theorem dL_law_2087 : decode cL_law 2087 = .ok (.goto 4, 3) := by decide +kernel
theorem dL_law_2090 : decode cL_law 2090 = .ok (.iconst 0, 1) := by decide +kernel
theorem dL_law_2091 : decode cL_law 2091 = .ok (.invokevirtual 214, 3) := by decide +kernel
theorem dL_law_2094 : decode cL_law 2094 = .ok (.aload_n 2, 1) := by decide +kernel
theorem dL_law_2095 : decode cL_law 2095 = .ok (.aload_n 0, 1) := by decide +kernel
theorem dL_law_2096 : decode cL_law 2096 = .ok (.iload_n 3, 1) := by decide +kernel
theorem dL_law_2097 : decode cL_law 2097 = .ok (.iconst 1, 1) := by decide +kernel
theorem dL_law_2098 : decode cL_law 2098 = .ok (.iadd, 1) := by decide +kernel
theorem dL_law_2099 : decode cL_law 2099 = .ok (.iaload, 1) := by decide +kernel
theorem dL_law_2100 : decode cL_law 2100 = .ok (.aload_n 0, 1) := by decide +kernel
theorem dL_law_2101 : decode cL_law 2101 = .ok (.iload_n 3, 1) := by decide +kernel
theorem dL_law_2102 : decode cL_law 2102 = .ok (.iconst 2, 1) := by decide +kernel
theorem dL_law_2103 : decode cL_law 2103 = .ok (.iadd, 1) := by decide +kernel
theorem dL_law_2104 : decode cL_law 2104 = .ok (.iaload, 1) := by decide +kernel
theorem dL_law_2105 : decode cL_law 2105 = .ok (.ifCond .eq 7, 3) := by decide +kernel
theorem dL_law_2108 : decode cL_law 2108 = .ok (.iconst 1, 1) := by decide +kernel
theorem dL_law_2109 : decode cL_law 2109 = .ok (.goto 4, 3) := by decide +kernel
theorem dL_law_2112 : decode cL_law 2112 = .ok (.iconst 0, 1) := by decide +kernel
theorem dL_law_2113 : decode cL_law 2113 = .ok (.invokevirtual 217, 3) := by decide +kernel
theorem dL_law_2116 : decode cL_law 2116 = .ok (.if_icmp .eq 191, 3) := by decide +kernel
theorem dL_law_2119 : decode cL_law 2119 = .ok (.iconst 0, 1) := by decide +kernel
theorem dL_law_2120 : decode cL_law 2120 = .ok (.ireturn, 1) := by decide +kernel
theorem dL_law_2121 : decode cL_law 2121 = .ok (.aload_n 1, 1) := by decide +kernel
theorem dL_law_2122 : decode cL_law 2122 = .ok (.aload_n 0, 1) := by decide +kernel
theorem dL_law_2123 : decode cL_law 2123 = .ok (.iload_n 3, 1) := by decide +kernel
