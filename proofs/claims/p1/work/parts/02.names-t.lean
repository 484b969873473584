set_option maxRecDepth 20000 in
theorem dLb_125 : decode cL_law 2140 = .ok (.iaload, 1) ∧ decode cL_law 2141 = .ok (.aload_n 3, 1) ∧ decode cL_law 2142 = .ok (.invokestatic 237, 3) ∧ decode cL_law 2145 = .ok (.istore 6, 2) ∧ decode cL_law 2147 = .ok (.aload_n 2, 1) ∧ decode cL_law 2148 = .ok (.aload_n 0, 1) ∧ decode cL_law 2149 = .ok (.iload 5, 2) ∧ decode cL_law 2151 = .ok (.iconst 1, 1) := by decide +kernel
theorem dL_law_2140 : decode cL_law 2140 = .ok (.iaload, 1) := dLb_125.1
theorem dL_law_2141 : decode cL_law 2141 = .ok (.aload_n 3, 1) := dLb_125.2.1
theorem dL_law_2142 : decode cL_law 2142 = .ok (.invokestatic 237, 3) := dLb_125.2.2.1
theorem dL_law_2145 : decode cL_law 2145 = .ok (.istore 6, 2) := dLb_125.2.2.2.1
theorem dL_law_2147 : decode cL_law 2147 = .ok (.aload_n 2, 1) := dLb_125.2.2.2.2.1
theorem dL_law_2148 : decode cL_law 2148 = .ok (.aload_n 0, 1) := dLb_125.2.2.2.2.2.1
theorem dL_law_2149 : decode cL_law 2149 = .ok (.iload 5, 2) := dLb_125.2.2.2.2.2.2.1
theorem dL_law_2151 : decode cL_law 2151 = .ok (.iconst 1, 1) := dLb_125.2.2.2.2.2.2.2
set_option maxRecDepth 20000 in
theorem dLb_126 : decode cL_law 2152 = .ok (.iadd, 1) ∧ decode cL_law 2153 = .ok (.iaload, 1) ∧ decode cL_law 2154 = .ok (.invokevirtual 239, 3) ∧ decode cL_law 2157 = .ok (.istore 7, 2) ∧ decode cL_law 2159 = .ok (.aload_n 2, 1) ∧ decode cL_law 2160 = .ok (.invokevirtual 144, 3) ∧ decode cL_law 2163 = .ok (.iload 6, 2) ∧ decode cL_law 2165 = .ok (.if_icmp .eq 5, 3) := by decide +kernel
theorem dL_law_2152 : decode cL_law 2152 = .ok (.iadd, 1) := dLb_126.1
theorem dL_law_2153 : decode cL_law 2153 = .ok (.iaload, 1) := dLb_126.2.1
theorem dL_law_2154 : decode cL_law 2154 = .ok (.invokevirtual 239, 3) := dLb_126.2.2.1
theorem dL_law_2157 : decode cL_law 2157 = .ok (.istore 7, 2) := dLb_126.2.2.2.1
theorem dL_law_2159 : decode cL_law 2159 = .ok (.aload_n 2, 1) := dLb_126.2.2.2.2.1
theorem dL_law_2160 : decode cL_law 2160 = .ok (.invokevirtual 144, 3) := dLb_126.2.2.2.2.2.1
theorem dL_law_2163 : decode cL_law 2163 = .ok (.iload 6, 2) := dLb_126.2.2.2.2.2.2.1
theorem dL_law_2165 : decode cL_law 2165 = .ok (.if_icmp .eq 5, 3) := dLb_126.2.2.2.2.2.2.2
set_option maxRecDepth 20000 in
theorem dLb_127 : decode cL_law 2170 = .ok (.iload 6, 2) ∧ decode cL_law 2172 = .ok (.ifCond .ne 15, 3) ∧ decode cL_law 2187 = .ok (.goto 203, 3) ∧ decode cL_law 2190 = .ok (.aload_n 1, 1) ∧ decode cL_law 2191 = .ok (.aload_n 0, 1) ∧ decode cL_law 2192 = .ok (.iload 5, 2) ∧ decode cL_law 2194 = .ok (.iconst 1, 1) ∧ decode cL_law 2195 = .ok (.iadd, 1) := by decide +kernel
theorem dL_law_2170 : decode cL_law 2170 = .ok (.iload 6, 2) := dLb_127.1
theorem dL_law_2172 : decode cL_law 2172 = .ok (.ifCond .ne 15, 3) := dLb_127.2.1
theorem dL_law_2187 : decode cL_law 2187 = .ok (.goto 203, 3) := dLb_127.2.2.1
theorem dL_law_2190 : decode cL_law 2190 = .ok (.aload_n 1, 1) := dLb_127.2.2.2.1
theorem dL_law_2191 : decode cL_law 2191 = .ok (.aload_n 0, 1) := dLb_127.2.2.2.2.1
theorem dL_law_2192 : decode cL_law 2192 = .ok (.iload 5, 2) := dLb_127.2.2.2.2.2.1
theorem dL_law_2194 : decode cL_law 2194 = .ok (.iconst 1, 1) := dLb_127.2.2.2.2.2.2.1
theorem dL_law_2195 : decode cL_law 2195 = .ok (.iadd, 1) := dLb_127.2.2.2.2.2.2.2
set_option maxRecDepth 20000 in
theorem dLb_128 : decode cL_law 2196 = .ok (.iaload, 1) ∧ decode cL_law 2197 = .ok (.aload_n 3, 1) ∧ decode cL_law 2198 = .ok (.invokestatic 240, 3) ∧ decode cL_law 2201 = .ok (.istore 6, 2) ∧ decode cL_law 2203 = .ok (.aload_n 2, 1) ∧ decode cL_law 2204 = .ok (.aload_n 0, 1) ∧ decode cL_law 2205 = .ok (.iload 5, 2) ∧ decode cL_law 2207 = .ok (.iconst 1, 1) := by decide +kernel
theorem dL_law_2196 : decode cL_law 2196 = .ok (.iaload, 1) := dLb_128.1
theorem dL_law_2197 : decode cL_law 2197 = .ok (.aload_n 3, 1) := dLb_128.2.1
theorem dL_law_2198 : decode cL_law 2198 = .ok (.invokestatic 240, 3) := dLb_128.2.2.1
theorem dL_law_2201 : decode cL_law 2201 = .ok (.istore 6, 2) := dLb_128.2.2.2.1
theorem dL_law_2203 : decode cL_law 2203 = .ok (.aload_n 2, 1) := dLb_128.2.2.2.2.1
theorem dL_law_2204 : decode cL_law 2204 = .ok (.aload_n 0, 1) := dLb_128.2.2.2.2.2.1
theorem dL_law_2205 : decode cL_law 2205 = .ok (.iload 5, 2) := dLb_128.2.2.2.2.2.2.1
theorem dL_law_2207 : decode cL_law 2207 = .ok (.iconst 1, 1) := dLb_128.2.2.2.2.2.2.2
set_option maxRecDepth 20000 in
theorem dLb_129 : decode cL_law 2208 = .ok (.iadd, 1) ∧ decode cL_law 2209 = .ok (.iaload, 1) ∧ decode cL_law 2210 = .ok (.invokevirtual 242, 3) ∧ decode cL_law 2213 = .ok (.istore 7, 2) ∧ decode cL_law 2215 = .ok (.aload_n 2, 1) ∧ decode cL_law 2216 = .ok (.invokevirtual 144, 3) ∧ decode cL_law 2219 = .ok (.iload 6, 2) ∧ decode cL_law 2221 = .ok (.if_icmp .eq 5, 3) := by decide +kernel
theorem dL_law_2208 : decode cL_law 2208 = .ok (.iadd, 1) := dLb_129.1
theorem dL_law_2209 : decode cL_law 2209 = .ok (.iaload, 1) := dLb_129.2.1
theorem dL_law_2210 : decode cL_law 2210 = .ok (.invokevirtual 242, 3) := dLb_129.2.2.1
theorem dL_law_2213 : decode cL_law 2213 = .ok (.istore 7, 2) := dLb_129.2.2.2.1
theorem dL_law_2215 : decode cL_law 2215 = .ok (.aload_n 2, 1) := dLb_129.2.2.2.2.1
theorem dL_law_2216 : decode cL_law 2216 = .ok (.invokevirtual 144, 3) := dLb_129.2.2.2.2.2.1
theorem dL_law_2219 : decode cL_law 2219 = .ok (.iload 6, 2) := dLb_129.2.2.2.2.2.2.1
theorem dL_law_2221 : decode cL_law 2221 = .ok (.if_icmp .eq 5, 3) := dLb_129.2.2.2.2.2.2.2
set_option maxRecDepth 20000 in
theorem dLb_130 : decode cL_law 2226 = .ok (.iload 6, 2) ∧ decode cL_law 2228 = .ok (.ifCond .ne 15, 3) ∧ decode cL_law 2243 = .ok (.goto 147, 3) ∧ decode cL_law 2246 = .ok (.aload_n 1, 1) ∧ decode cL_law 2247 = .ok (.invokevirtual 243, 3) ∧ decode cL_law 2250 = .ok (.aload_n 2, 1) ∧ decode cL_law 2251 = .ok (.invokevirtual 246, 3) ∧ decode cL_law 2254 = .ok (.if_icmp .eq 136, 3) := by decide +kernel
theorem dL_law_2226 : decode cL_law 2226 = .ok (.iload 6, 2) := dLb_130.1
theorem dL_law_2228 : decode cL_law 2228 = .ok (.ifCond .ne 15, 3) := dLb_130.2.1
theorem dL_law_2243 : decode cL_law 2243 = .ok (.goto 147, 3) := dLb_130.2.2.1
theorem dL_law_2246 : decode cL_law 2246 = .ok (.aload_n 1, 1) := dLb_130.2.2.2.1
theorem dL_law_2247 : decode cL_law 2247 = .ok (.invokevirtual 243, 3) := dLb_130.2.2.2.2.1
theorem dL_law_2250 : decode cL_law 2250 = .ok (.aload_n 2, 1) := dLb_130.2.2.2.2.2.1
theorem dL_law_2251 : decode cL_law 2251 = .ok (.invokevirtual 246, 3) := dLb_130.2.2.2.2.2.2.1
theorem dL_law_2254 : decode cL_law 2254 = .ok (.if_icmp .eq 136, 3) := dLb_130.2.2.2.2.2.2.2
set_option maxRecDepth 20000 in
theorem dLb_131 : decode cL_law 2259 = .ok (.aload_n 1, 1) ∧ decode cL_law 2260 = .ok (.aload 4, 2) ∧ decode cL_law 2262 = .ok (.invokestatic 247, 3) ∧ decode cL_law 2265 = .ok (.istore 6, 2) ∧ decode cL_law 2267 = .ok (.aload_n 2, 1) ∧ decode cL_law 2268 = .ok (.invokevirtual 250, 3) ∧ decode cL_law 2271 = .ok (.fstore 7, 2) ∧ decode cL_law 2273 = .ok (.aload_n 2, 1) := by decide +kernel
theorem dL_law_2259 : decode cL_law 2259 = .ok (.aload_n 1, 1) := dLb_131.1
theorem dL_law_2260 : decode cL_law 2260 = .ok (.aload 4, 2) := dLb_131.2.1
theorem dL_law_2262 : decode cL_law 2262 = .ok (.invokestatic 247, 3) := dLb_131.2.2.1
theorem dL_law_2265 : decode cL_law 2265 = .ok (.istore 6, 2) := dLb_131.2.2.2.1
theorem dL_law_2267 : decode cL_law 2267 = .ok (.aload_n 2, 1) := dLb_131.2.2.2.2.1
theorem dL_law_2268 : decode cL_law 2268 = .ok (.invokevirtual 250, 3) := dLb_131.2.2.2.2.2.1
theorem dL_law_2271 : decode cL_law 2271 = .ok (.fstore 7, 2) := dLb_131.2.2.2.2.2.2.1
theorem dL_law_2273 : decode cL_law 2273 = .ok (.aload_n 2, 1) := dLb_131.2.2.2.2.2.2.2
set_option maxRecDepth 20000 in
theorem dLb_132 : decode cL_law 2274 = .ok (.invokevirtual 144, 3) ∧ decode cL_law 2277 = .ok (.iload 6, 2) ∧ decode cL_law 2279 = .ok (.if_icmp .eq 5, 3) ∧ decode cL_law 2284 = .ok (.iload 6, 2) ∧ decode cL_law 2286 = .ok (.ifCond .ne 36, 3) ∧ decode cL_law 2322 = .ok (.goto 68, 3) ∧ decode cL_law 2325 = .ok (.aload_n 1, 1) ∧ decode cL_law 2326 = .ok (.aload 4, 2) := by decide +kernel
theorem dL_law_2274 : decode cL_law 2274 = .ok (.invokevirtual 144, 3) := dLb_132.1
theorem dL_law_2277 : decode cL_law 2277 = .ok (.iload 6, 2) := dLb_132.2.1
theorem dL_law_2279 : decode cL_law 2279 = .ok (.if_icmp .eq 5, 3) := dLb_132.2.2.1
theorem dL_law_2284 : decode cL_law 2284 = .ok (.iload 6, 2) := dLb_132.2.2.2.1
theorem dL_law_2286 : decode cL_law 2286 = .ok (.ifCond .ne 36, 3) := dLb_132.2.2.2.2.1
theorem dL_law_2322 : decode cL_law 2322 = .ok (.goto 68, 3) := dLb_132.2.2.2.2.2.1
theorem dL_law_2325 : decode cL_law 2325 = .ok (.aload_n 1, 1) := dLb_132.2.2.2.2.2.2.1
theorem dL_law_2326 : decode cL_law 2326 = .ok (.aload 4, 2) := dLb_132.2.2.2.2.2.2.2
set_option maxRecDepth 20000 in
theorem dLb_133 : decode cL_law 2328 = .ok (.invokestatic 251, 3) ∧ decode cL_law 2331 = .ok (.istore 6, 2) ∧ decode cL_law 2333 = .ok (.aload_n 2, 1) ∧ decode cL_law 2334 = .ok (.invokevirtual 253, 3) ∧ decode cL_law 2337 = .ok (.dstore 7, 2) ∧ decode cL_law 2339 = .ok (.aload_n 2, 1) ∧ decode cL_law 2340 = .ok (.invokevirtual 144, 3) ∧ decode cL_law 2343 = .ok (.iload 6, 2) := by decide +kernel
theorem dL_law_2328 : decode cL_law 2328 = .ok (.invokestatic 251, 3) := dLb_133.1
theorem dL_law_2331 : decode cL_law 2331 = .ok (.istore 6, 2) := dLb_133.2.1
theorem dL_law_2333 : decode cL_law 2333 = .ok (.aload_n 2, 1) := dLb_133.2.2.1
theorem dL_law_2334 : decode cL_law 2334 = .ok (.invokevirtual 253, 3) := dLb_133.2.2.2.1
theorem dL_law_2337 : decode cL_law 2337 = .ok (.dstore 7, 2) := dLb_133.2.2.2.2.1
theorem dL_law_2339 : decode cL_law 2339 = .ok (.aload_n 2, 1) := dLb_133.2.2.2.2.2.1
theorem dL_law_2340 : decode cL_law 2340 = .ok (.invokevirtual 144, 3) := dLb_133.2.2.2.2.2.2.1
theorem dL_law_2343 : decode cL_law 2343 = .ok (.iload 6, 2) := dLb_133.2.2.2.2.2.2.2
set_option maxRecDepth 20000 in
theorem dLb_134 : decode cL_law 2345 = .ok (.if_icmp .eq 5, 3) ∧ decode cL_law 2350 = .ok (.iload 6, 2) ∧ decode cL_law 2352 = .ok (.ifCond .ne 35, 3) ∧ decode cL_law 2387 = .ok (.goto 3, 3) ∧ decode cL_law 2390 = .ok (.iinc 5 7, 3) ∧ decode cL_law 2393 = .ok (.goto (-2365), 3) ∧ decode cL_law 2396 = .ok (.iconst 1, 1) ∧ decode cL_law 2397 = .ok (.ireturn, 1) := by decide +kernel
theorem dL_law_2345 : decode cL_law 2345 = .ok (.if_icmp .eq 5, 3) := dLb_134.1
theorem dL_law_2350 : decode cL_law 2350 = .ok (.iload 6, 2) := dLb_134.2.1
theorem dL_law_2352 : decode cL_law 2352 = .ok (.ifCond .ne 35, 3) := dLb_134.2.2.1
theorem dL_law_2387 : decode cL_law 2387 = .ok (.goto 3, 3) := dLb_134.2.2.2.1
theorem dL_law_2390 : decode cL_law 2390 = .ok (.iinc 5 7, 3) := dLb_134.2.2.2.2.1
theorem dL_law_2393 : decode cL_law 2393 = .ok (.goto (-2365), 3) := dLb_134.2.2.2.2.2.1
theorem dL_law_2396 : decode cL_law 2396 = .ok (.iconst 1, 1) := dLb_134.2.2.2.2.2.2.1
theorem dL_law_2397 : decode cL_law 2397 = .ok (.ireturn, 1) := dLb_134.2.2.2.2.2.2.2
