/-! decode rows of the law -/
theorem dL_law_2145 : decode code 2145 = .ok (.iconst 2, 1) := by decide +kernel
theorem dL_law_2146 : decode code 2146 = .ok (.iadd, 1) := by decide +kernel
theorem dL_law_2147 : decode code 2147 = .ok (.iaload, 1) := by decide +kernel
theorem dL_law_2148 : decode code 2148 = .ok (.aload_n 0, 1) := by decide +kernel
theorem dL_law_2149 : decode code 2149 = .ok (.iload 4, 2) := by decide +kernel
theorem dL_law_2151 : decode code 2151 = .ok (.iconst 3, 1) := by decide +kernel
theorem dL_law_2152 : decode code 2152 = .ok (.iadd, 1) := by decide +kernel
theorem dL_law_2153 : decode code 2153 = .ok (.iaload, 1) := by decide +kernel
theorem dL_law_2154 : decode code 2154 = .ok (.aload_n 0, 1) := by decide +kernel
theorem dL_law_2155 : decode code 2155 = .ok (.iload 4, 2) := by decide +kernel
theorem dL_law_2157 : decode code 2157 = .ok (.iconst 4, 1) := by decide +kernel
theorem dL_law_2158 : decode code 2158 = .ok (.iadd, 1) := by decide +kernel
theorem dL_law_2159 : decode code 2159 = .ok (.iaload, 1) := by decide +kernel
theorem dL_law_2160 : decode code 2160 = .ok (.invokevirtual 197, 3) := by decide +kernel
theorem dL_law_2163 : decode code 2163 = .ok (.if_icmp .eq 632, 3) := by decide +kernel
theorem dL_law_2166 : decode code 2166 = .ok (.iconst 0, 1) := by decide +kernel
theorem dL_law_2167 : decode code 2167 = .ok (.ireturn, 1) := by decide +kernel
theorem dL_law_2168 : decode code 2168 = .ok (.aload_n 1, 1) := by decide +kernel
theorem dL_law_2169 : decode code 2169 = .ok (.aload_n 0, 1) := by decide +kernel
theorem dL_law_2170 : decode code 2170 = .ok (.iload 4, 2) := by decide +kernel
theorem dL_law_2172 : decode code 2172 = .ok (.iconst 1, 1) := by decide +kernel
theorem dL_law_2173 : decode code 2173 = .ok (.iadd, 1) := by decide +kernel
theorem dL_law_2174 : decode code 2174 = .ok (.iaload, 1) := by decide +kernel
theorem dL_law_2175 : decode code 2175 = .ok (.aload_n 0, 1) := by decide +kernel
theorem dL_law_2176 : decode code 2176 = .ok (.iload 4, 2) := by decide +kernel
theorem dL_law_2178 : decode code 2178 = .ok (.iconst 2, 1) := by decide +kernel
theorem dL_law_2179 : decode code 2179 = .ok (.iadd, 1) := by decide +kernel
theorem dL_law_2180 : decode code 2180 = .ok (.iaload, 1) := by decide +kernel
theorem dL_law_2181 : decode code 2181 = .ok (.aload_n 0, 1) := by decide +kernel
theorem dL_law_2182 : decode code 2182 = .ok (.iload 4, 2) := by decide +kernel
theorem dL_law_2184 : decode code 2184 = .ok (.iconst 3, 1) := by decide +kernel
theorem dL_law_2185 : decode code 2185 = .ok (.iadd, 1) := by decide +kernel
theorem dL_law_2186 : decode code 2186 = .ok (.iaload, 1) := by decide +kernel
theorem dL_law_2187 : decode code 2187 = .ok (.aload_n 0, 1) := by decide +kernel
theorem dL_law_2188 : decode code 2188 = .ok (.iload 4, 2) := by decide +kernel
theorem dL_law_2190 : decode code 2190 = .ok (.iconst 4, 1) := by decide +kernel
theorem dL_law_2191 : decode code 2191 = .ok (.iadd, 1) := by decide +kernel
theorem dL_law_2192 : decode code 2192 = .ok (.iaload, 1) := by decide +kernel
theorem dL_law_2193 : decode code 2193 = .ok (.invokevirtual 198, 3) := by decide +kernel
theorem dL_law_2196 : decode code 2196 = .ok (.aload_n 2, 1) := by decide +kernel
theorem dL_law_2197 : decode code 2197 = .ok (.aload_n 0, 1) := by decide +kernel
theorem dL_law_2198 : decode code 2198 = .ok (.iload 4, 2) := by decide +kernel
theorem dL_law_2200 : decode code 2200 = .ok (.iconst 1, 1) := by decide +kernel
theorem dL_law_2201 : decode code 2201 = .ok (.iadd, 1) := by decide +kernel
theorem dL_law_2202 : decode code 2202 = .ok (.iaload, 1) := by decide +kernel
theorem dL_law_2203 : decode code 2203 = .ok (.aload_n 0, 1) := by decide +kernel
theorem dL_law_2204 : decode code 2204 = .ok (.iload 4, 2) := by decide +kernel
theorem dL_law_2206 : decode code 2206 = .ok (.iconst 2, 1) := by decide +kernel
theorem dL_law_2207 : decode code 2207 = .ok (.iadd, 1) := by decide +kernel
theorem dL_law_2208 : decode code 2208 = .ok (.iaload, 1) := by decide +kernel
theorem dL_law_2209 : decode code 2209 = .ok (.aload_n 0, 1) := by decide +kernel
theorem dL_law_2210 : decode code 2210 = .ok (.iload 4, 2) := by decide +kernel
theorem dL_law_2212 : decode code 2212 = .ok (.iconst 3, 1) := by decide +kernel
theorem dL_law_2213 : decode code 2213 = .ok (.iadd, 1) := by decide +kernel
theorem dL_law_2214 : decode code 2214 = .ok (.iaload, 1) := by decide +kernel
theorem dL_law_2215 : decode code 2215 = .ok (.aload_n 0, 1) := by decide +kernel
theorem dL_law_2216 : decode code 2216 = .ok (.iload 4, 2) := by decide +kernel
theorem dL_law_2218 : decode code 2218 = .ok (.iconst 4, 1) := by decide +kernel
theorem dL_law_2219 : decode code 2219 = .ok (.iadd, 1) := by decide +kernel
theorem dL_law_2220 : decode code 2220 = .ok (.iaload, 1) := by decide +kernel
theorem dL_law_2221 : decode code 2221 = .ok (.invokevirtual 201, 3) := by decide +kernel
theorem dL_law_2224 : decode code 2224 = .ok (.if_icmp .eq 571, 3) := by decide +kernel
theorem dL_law_2227 : decode code 2227 = .ok (.iconst 0, 1) := by decide +kernel
theorem dL_law_2228 : decode code 2228 = .ok (.ireturn, 1) := by decide +kernel
theorem dL_law_2229 : decode code 2229 = .ok (.aload_n 1, 1) := by decide +kernel
theorem dL_law_2230 : decode code 2230 = .ok (.aload_n 0, 1) := by decide +kernel
theorem dL_law_2231 : decode code 2231 = .ok (.iload 4, 2) := by decide +kernel
theorem dL_law_2233 : decode code 2233 = .ok (.iconst 1, 1) := by decide +kernel
theorem dL_law_2234 : decode code 2234 = .ok (.iadd, 1) := by decide +kernel
theorem dL_law_2235 : decode code 2235 = .ok (.iaload, 1) := by decide +kernel
theorem dL_law_2236 : decode code 2236 = .ok (.aload_n 0, 1) := by decide +kernel
theorem dL_law_2237 : decode code 2237 = .ok (.iload 4, 2) := by decide +kernel
theorem dL_law_2239 : decode code 2239 = .ok (.iconst 2, 1) := by decide +kernel
theorem dL_law_2240 : decode code 2240 = .ok (.iadd, 1) := by decide +kernel
theorem dL_law_2241 : decode code 2241 = .ok (.iaload, 1) := by decide +kernel
theorem dL_law_2242 : decode code 2242 = .ok (.invokevirtual 202, 3) := by decide +kernel
theorem dL_law_2245 : decode code 2245 = .ok (.aload_n 2, 1) := by decide +kernel
theorem dL_law_2246 : decode code 2246 = .ok (.aload_n 0, 1) := by decide +kernel
theorem dL_law_2247 : decode code 2247 = .ok (.iload 4, 2) := by decide +kernel
theorem dL_law_2249 : decode code 2249 = .ok (.iconst 1, 1) := by decide +kernel
theorem dL_law_2250 : decode code 2250 = .ok (.iadd, 1) := by decide +kernel
theorem dL_law_2251 : decode code 2251 = .ok (.iaload, 1) := by decide +kernel
theorem dL_law_2252 : decode code 2252 = .ok (.aload_n 0, 1) := by decide +kernel
theorem dL_law_2253 : decode code 2253 = .ok (.iload 4, 2) := by decide +kernel
theorem dL_law_2255 : decode code 2255 = .ok (.iconst 2, 1) := by decide +kernel
theorem dL_law_2256 : decode code 2256 = .ok (.iadd, 1) := by decide +kernel
theorem dL_law_2257 : decode code 2257 = .ok (.iaload, 1) := by decide +kernel
theorem dL_law_2258 : decode code 2258 = .ok (.invokevirtual 205, 3) := by decide +kernel
theorem dL_law_2261 : decode code 2261 = .ok (.if_icmp .eq 534, 3) := by decide +kernel
theorem dL_law_2264 : decode code 2264 = .ok (.iconst 0, 1) := by decide +kernel
theorem dL_law_2265 : decode code 2265 = .ok (.ireturn, 1) := by decide +kernel
theorem dL_law_2266 : decode code 2266 = .ok (.aload_n 1, 1) := by decide +kernel
theorem dL_law_2267 : decode code 2267 = .ok (.aload_n 0, 1) := by decide +kernel
theorem dL_law_2268 : decode code 2268 = .ok (.iload 4, 2) := by decide +kernel
theorem dL_law_2270 : decode code 2270 = .ok (.iconst 1, 1) := by decide +kernel
theorem dL_law_2271 : decode code 2271 = .ok (.iadd, 1) := by decide +kernel
theorem dL_law_2272 : decode code 2272 = .ok (.iaload, 1) := by decide +kernel
theorem dL_law_2273 : decode code 2273 = .ok (.aload_n 0, 1) := by decide +kernel
theorem dL_law_2274 : decode code 2274 = .ok (.iload 4, 2) := by decide +kernel
theorem dL_law_2276 : decode code 2276 = .ok (.iconst 2, 1) := by decide +kernel
theorem dL_law_2277 : decode code 2277 = .ok (.iadd, 1) := by decide +kernel
theorem dL_law_2278 : decode code 2278 = .ok (.iaload, 1) := by decide +kernel
theorem dL_law_2279 : decode code 2279 = .ok (.invokevirtual 206, 3) := by decide +kernel
theorem dL_law_2282 : decode code 2282 = .ok (.aload_n 2, 1) := by decide +kernel
theorem dL_law_2283 : decode code 2283 = .ok (.aload_n 0, 1) := by decide +kernel
theorem dL_law_2284 : decode code 2284 = .ok (.iload 4, 2) := by decide +kernel
theorem dL_law_2286 : decode code 2286 = .ok (.iconst 1, 1) := by decide +kernel
theorem dL_law_2287 : decode code 2287 = .ok (.iadd, 1) := by decide +kernel
theorem dL_law_2288 : decode code 2288 = .ok (.iaload, 1) := by decide +kernel
theorem dL_law_2289 : decode code 2289 = .ok (.aload_n 0, 1) := by decide +kernel
theorem dL_law_2290 : decode code 2290 = .ok (.iload 4, 2) := by decide +kernel
theorem dL_law_2292 : decode code 2292 = .ok (.iconst 2, 1) := by decide +kernel
theorem dL_law_2293 : decode code 2293 = .ok (.iadd, 1) := by decide +kernel
theorem dL_law_2294 : decode code 2294 = .ok (.iaload, 1) := by decide +kernel
theorem dL_law_2295 : decode code 2295 = .ok (.invokevirtual 209, 3) := by decide +kernel
theorem dL_law_2298 : decode code 2298 = .ok (.if_icmp .eq 497, 3) := by decide +kernel
theorem dL_law_2301 : decode code 2301 = .ok (.iconst 0, 1) := by decide +kernel
theorem dL_law_2302 : decode code 2302 = .ok (.ireturn, 1) := by decide +kernel
theorem dL_law_2303 : decode code 2303 = .ok (.aload_n 1, 1) := by decide +kernel
theorem dL_law_2304 : decode code 2304 = .ok (.aload_n 0, 1) := by decide +kernel
theorem dL_law_2305 : decode code 2305 = .ok (.iload 4, 2) := by decide +kernel
theorem dL_law_2307 : decode code 2307 = .ok (.iconst 1, 1) := by decide +kernel
theorem dL_law_2308 : decode code 2308 = .ok (.iadd, 1) := by decide +kernel
theorem dL_law_2309 : decode code 2309 = .ok (.iaload, 1) := by decide +kernel
theorem dL_law_2310 : decode code 2310 = .ok (.aload_n 0, 1) := by decide +kernel
theorem dL_law_2311 : decode code 2311 = .ok (.iload 4, 2) := by decide +kernel
theorem dL_law_2313 : decode code 2313 = .ok (.iconst 2, 1) := by decide +kernel
theorem dL_law_2314 : decode code 2314 = .ok (.iadd, 1) := by decide +kernel
theorem dL_law_2315 : decode code 2315 = .ok (.iaload, 1) := by decide +kernel
theorem dL_law_2316 : decode code 2316 = .ok (.aload_n 0, 1) := by decide +kernel
theorem dL_law_2317 : decode code 2317 = .ok (.iload 4, 2) := by decide +kernel
theorem dL_law_2319 : decode code 2319 = .ok (.iconst 3, 1) := by decide +kernel
theorem dL_law_2320 : decode code 2320 = .ok (.iadd, 1) := by decide +kernel
theorem dL_law_2321 : decode code 2321 = .ok (.iaload, 1) := by decide +kernel
theorem dL_law_2322 : decode code 2322 = .ok (.ifCond .eq 7, 3) := by decide +kernel
theorem dL_law_2325 : decode code 2325 = .ok (.iconst 1, 1) := by decide +kernel
theorem dL_law_2326 : decode code 2326 = .ok (.goto 4, 3) := by decide +kernel
theorem dL_law_2329 : decode code 2329 = .ok (.iconst 0, 1) := by decide +kernel
theorem dL_law_2330 : decode code 2330 = .ok (.invokevirtual 210, 3) := by decide +kernel
theorem dL_law_2333 : decode code 2333 = .ok (.aload_n 2, 1) := by decide +kernel
theorem dL_law_2334 : decode code 2334 = .ok (.aload_n 0, 1) := by decide +kernel
theorem dL_law_2335 : decode code 2335 = .ok (.iload 4, 2) := by decide +kernel
theorem dL_law_2337 : decode code 2337 = .ok (.iconst 1, 1) := by decide +kernel
theorem dL_law_2338 : decode code 2338 = .ok (.iadd, 1) := by decide +kernel
theorem dL_law_2339 : decode code 2339 = .ok (.iaload, 1) := by decide +kernel
theorem dL_law_2340 : decode code 2340 = .ok (.aload_n 0, 1) := by decide +kernel
theorem dL_law_2341 : decode code 2341 = .ok (.iload 4, 2) := by decide +kernel
theorem dL_law_2343 : decode code 2343 = .ok (.iconst 2, 1) := by decide +kernel
theorem dL_law_2344 : decode code 2344 = .ok (.iadd, 1) := by decide +kernel
theorem dL_law_2345 : decode code 2345 = .ok (.iaload, 1) := by decide +kernel
theorem dL_law_2346 : decode code 2346 = .ok (.aload_n 0, 1) := by decide +kernel
theorem dL_law_2347 : decode code 2347 = .ok (.iload 4, 2) := by decide +kernel
theorem dL_law_2349 : decode code 2349 = .ok (.iconst 3, 1) := by decide +kernel
theorem dL_law_2350 : decode code 2350 = .ok (.iadd, 1) := by decide +kernel
theorem dL_law_2351 : decode code 2351 = .ok (.iaload, 1) := by decide +kernel
theorem dL_law_2352 : decode code 2352 = .ok (.ifCond .eq 7, 3) := by decide +kernel
theorem dL_law_2355 : decode code 2355 = .ok (.iconst 1, 1) := by decide +kernel
theorem dL_law_2356 : decode code 2356 = .ok (.goto 4, 3) := by decide +kernel
theorem dL_law_2359 : decode code 2359 = .ok (.iconst 0, 1) := by decide +kernel
theorem dL_law_2360 : decode code 2360 = .ok (.invokevirtual 213, 3) := by decide +kernel
theorem dL_law_2363 : decode code 2363 = .ok (.lcmp, 1) := by decide +kernel
theorem dL_law_2364 : decode code 2364 = .ok (.ifCond .eq 431, 3) := by decide +kernel
theorem dL_law_2367 : decode code 2367 = .ok (.iconst 0, 1) := by decide +kernel
theorem dL_law_2368 : decode code 2368 = .ok (.ireturn, 1) := by decide +kernel
theorem dL_law_2369 : decode code 2369 = .ok (.aload_n 1, 1) := by decide +kernel
theorem dL_law_2370 : decode code 2370 = .ok (.aload_n 0, 1) := by decide +kernel
theorem dL_law_2371 : decode code 2371 = .ok (.iload 4, 2) := by decide +kernel
theorem dL_law_2373 : decode code 2373 = .ok (.iconst 1, 1) := by decide +kernel
theorem dL_law_2374 : decode code 2374 = .ok (.iadd, 1) := by decide +kernel
theorem dL_law_2375 : decode code 2375 = .ok (.iaload, 1) := by decide +kernel
theorem dL_law_2376 : decode code 2376 = .ok (.invokevirtual 214, 3) := by decide +kernel
theorem dL_law_2379 : decode code 2379 = .ok (.aload_n 2, 1) := by decide +kernel
theorem dL_law_2380 : decode code 2380 = .ok (.aload_n 0, 1) := by decide +kernel
theorem dL_law_2381 : decode code 2381 = .ok (.iload 4, 2) := by decide +kernel
theorem dL_law_2383 : decode code 2383 = .ok (.iconst 1, 1) := by decide +kernel
theorem dL_law_2384 : decode code 2384 = .ok (.iadd, 1) := by decide +kernel
theorem dL_law_2385 : decode code 2385 = .ok (.iaload, 1) := by decide +kernel
theorem dL_law_2386 : decode code 2386 = .ok (.invokevirtual 217, 3) := by decide +kernel
theorem dL_law_2389 : decode code 2389 = .ok (.if_icmp .eq 406, 3) := by decide +kernel
theorem dL_law_2392 : decode code 2392 = .ok (.iconst 0, 1) := by decide +kernel
theorem dL_law_2393 : decode code 2393 = .ok (.ireturn, 1) := by decide +kernel
theorem dL_law_2394 : decode code 2394 = .ok (.aload_n 1, 1) := by decide +kernel
theorem dL_law_2395 : decode code 2395 = .ok (.aload_n 0, 1) := by decide +kernel
theorem dL_law_2396 : decode code 2396 = .ok (.iload 4, 2) := by decide +kernel
theorem dL_law_2398 : decode code 2398 = .ok (.iconst 1, 1) := by decide +kernel
theorem dL_law_2399 : decode code 2399 = .ok (.iadd, 1) := by decide +kernel
theorem dL_law_2400 : decode code 2400 = .ok (.iaload, 1) := by decide +kernel
theorem dL_law_2401 : decode code 2401 = .ok (.ifCond .eq 7, 3) := by decide +kernel
theorem dL_law_2404 : decode code 2404 = .ok (.iconst 1, 1) := by decide +kernel
theorem dL_law_2405 : decode code 2405 = .ok (.goto 4, 3) := by decide +kernel
theorem dL_law_2408 : decode code 2408 = .ok (.iconst 0, 1) := by decide +kernel
theorem dL_law_2409 : decode code 2409 = .ok (.invokevirtual 218, 3) := by decide +kernel
theorem dL_law_2412 : decode code 2412 = .ok (.aload_n 2, 1) := by decide +kernel
theorem dL_law_2413 : decode code 2413 = .ok (.aload_n 0, 1) := by decide +kernel
theorem dL_law_2414 : decode code 2414 = .ok (.iload 4, 2) := by decide +kernel
theorem dL_law_2416 : decode code 2416 = .ok (.iconst 1, 1) := by decide +kernel
theorem dL_law_2417 : decode code 2417 = .ok (.iadd, 1) := by decide +kernel
theorem dL_law_2418 : decode code 2418 = .ok (.iaload, 1) := by decide +kernel
theorem dL_law_2419 : decode code 2419 = .ok (.ifCond .eq 7, 3) := by decide +kernel
theorem dL_law_2422 : decode code 2422 = .ok (.iconst 1, 1) := by decide +kernel
theorem dL_law_2423 : decode code 2423 = .ok (.goto 4, 3) := by decide +kernel
theorem dL_law_2426 : decode code 2426 = .ok (.iconst 0, 1) := by decide +kernel
theorem dL_law_2427 : decode code 2427 = .ok (.invokevirtual 222, 3) := by decide +kernel
theorem dL_law_2430 : decode code 2430 = .ok (.lcmp, 1) := by decide +kernel
theorem dL_law_2431 : decode code 2431 = .ok (.ifCond .eq 364, 3) := by decide +kernel
theorem dL_law_2434 : decode code 2434 = .ok (.iconst 0, 1) := by decide +kernel
theorem dL_law_2435 : decode code 2435 = .ok (.ireturn, 1) := by decide +kernel
theorem dL_law_2436 : decode code 2436 = .ok (.aload_n 1, 1) := by decide +kernel
theorem dL_law_2437 : decode code 2437 = .ok (.aload_n 0, 1) := by decide +kernel
theorem dL_law_2438 : decode code 2438 = .ok (.iload 4, 2) := by decide +kernel
theorem dL_law_2440 : decode code 2440 = .ok (.iconst 1, 1) := by decide +kernel
theorem dL_law_2441 : decode code 2441 = .ok (.iadd, 1) := by decide +kernel
theorem dL_law_2442 : decode code 2442 = .ok (.iaload, 1) := by decide +kernel
theorem dL_law_2443 : decode code 2443 = .ok (.aload_n 0, 1) := by decide +kernel
theorem dL_law_2444 : decode code 2444 = .ok (.iload 4, 2) := by decide +kernel
theorem dL_law_2446 : decode code 2446 = .ok (.iconst 2, 1) := by decide +kernel
theorem dL_law_2447 : decode code 2447 = .ok (.iadd, 1) := by decide +kernel
theorem dL_law_2448 : decode code 2448 = .ok (.iaload, 1) := by decide +kernel
theorem dL_law_2449 : decode code 2449 = .ok (.ifCond .eq 7, 3) := by decide +kernel
theorem dL_law_2452 : decode code 2452 = .ok (.iconst 1, 1) := by decide +kernel
theorem dL_law_2453 : decode code 2453 = .ok (.goto 4, 3) := by decide +kernel
theorem dL_law_2456 : decode code 2456 = .ok (.iconst 0, 1) := by decide +kernel
theorem dL_law_2457 : decode code 2457 = .ok (.invokevirtual 223, 3) := by decide +kernel
theorem dL_law_2460 : decode code 2460 = .ok (.aload_n 2, 1) := by decide +kernel
theorem dL_law_2461 : decode code 2461 = .ok (.aload_n 0, 1) := by decide +kernel
theorem dL_law_2462 : decode code 2462 = .ok (.iload 4, 2) := by decide +kernel
theorem dL_law_2464 : decode code 2464 = .ok (.iconst 1, 1) := by decide +kernel
theorem dL_law_2465 : decode code 2465 = .ok (.iadd, 1) := by decide +kernel
theorem dL_law_2466 : decode code 2466 = .ok (.iaload, 1) := by decide +kernel
theorem dL_law_2467 : decode code 2467 = .ok (.aload_n 0, 1) := by decide +kernel
