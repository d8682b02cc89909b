theorem kk_Model_worth : g_mokB md_Model_worth 0 [2000, 153, 1998, 1999] = true := by decide +kernel
theorem kc_Model_worth : g_mchk mt g_mk g_cnt md_Model_worth = true := by decide +kernel
theorem kk_Model_isSide : g_mokB md_Model_isSide 0 [2004, 153, 2003, 115] = true := by decide +kernel
theorem kc_Model_isSide : g_mchk mt g_mk g_cnt md_Model_isSide = true := by decide +kernel
theorem kk_Model_worthOf : g_mokB md_Model_worthOf 0 [2008, 153, 2007, 116] = true := by decide +kernel
theorem kc_Model_worthOf : g_mchk mt g_mk g_cnt md_Model_worthOf = true := by decide +kernel
theorem kk_Model_rows : g_mokB md_Model_rows 0 [2012, 153, 2010, 2011] = true := by decide +kernel
theorem kc_Model_rows : g_mchk mt g_mk g_cnt md_Model_rows = true := by decide +kernel
theorem kk_Model_seek : g_mokB md_Model_seek 0 [2016, 153, 2015, 117] = true := by decide +kernel
theorem kc_Model_seek : g_mchk mt g_mk g_cnt md_Model_seek = true := by decide +kernel
theorem kk_Model_seekFrom : g_mokB md_Model_seekFrom 0 [2021, 153, 2020, 118] = true := by decide +kernel
theorem kc_Model_seekFrom : g_mchk mt g_mk g_cnt md_Model_seekFrom = true := by decide +kernel
theorem kk_Model_endRow : g_mokB md_Model_endRow 0 [2025, 153, 2024, 119] = true := by decide +kernel
theorem kc_Model_endRow : g_mchk mt g_mk g_cnt md_Model_endRow = true := by decide +kernel
theorem kk_Model_areShoesThere : g_mokB md_Model_areShoesThere 0 [2029, 153, 2028, 120] = true := by decide +kernel
theorem kc_Model_areShoesThere : g_mchk mt g_mk g_cnt md_Model_areShoesThere = true := by decide +kernel
theorem kk_Model_mayBeIn : g_mokB md_Model_mayBeIn 0 [2033, 153, 2032, 121] = true := by decide +kernel
theorem kc_Model_mayBeIn : g_mchk mt g_mk g_cnt md_Model_mayBeIn = true := by decide +kernel
theorem kk_Model_best : g_mokB md_Model_best 0 [2037, 153, 2035, 2036] = true := by decide +kernel
theorem kc_Model_best : g_mchk mt g_mk g_cnt md_Model_best = true := by decide +kernel
theorem kk_Model_bestChurch : g_mokB md_Model_bestChurch 0 [2041, 153, 2039, 2040] = true := by decide +kernel
theorem kc_Model_bestChurch : g_mchk mt g_mk g_cnt md_Model_bestChurch = true := by decide +kernel
theorem kk_Model_bestWorth : g_mokB md_Model_bestWorth 0 [2045, 153, 2043, 2044] = true := by decide +kernel
theorem kc_Model_bestWorth : g_mchk mt g_mk g_cnt md_Model_bestWorth = true := by decide +kernel
theorem kk_Model_swap : g_mokB md_Model_swap 0 [2049, 153, 2047, 2048] = true := by decide +kernel
theorem kc_Model_swap : g_mchk mt g_mk g_cnt md_Model_swap = true := by decide +kernel
theorem kk_Model_isRightSwapped : g_mokB md_Model_isRightSwapped 0 [2053, 153, 2052, 122] = true := by decide +kernel
theorem kc_Model_isRightSwapped : g_mchk mt g_mk g_cnt md_Model_isRightSwapped = true := by decide +kernel
theorem kk_Model_turnsOf : g_mokB md_Model_turnsOf 0 [2057, 153, 2055, 2056] = true := by decide +kernel
theorem kc_Model_turnsOf : g_mchk mt g_mk g_cnt md_Model_turnsOf = true := by decide +kernel
theorem kk_Model_ago : g_mokB md_Model_ago 0 [2061, 153, 2059, 2060] = true := by decide +kernel
theorem kc_Model_ago : g_mchk mt g_mk g_cnt md_Model_ago = true := by decide +kernel
theorem kk_Model_slept : g_mokB md_Model_slept 0 [2065, 153, 2063, 2064] = true := by decide +kernel
theorem kc_Model_slept : g_mchk mt g_mk g_cnt md_Model_slept = true := by decide +kernel
theorem kk_Model_sleptOf : g_mokB md_Model_sleptOf 0 [2069, 153, 2068, 123] = true := by decide +kernel
theorem kc_Model_sleptOf : g_mchk mt g_mk g_cnt md_Model_sleptOf = true := by decide +kernel
theorem kk_Model_knows : g_mokB md_Model_knows 0 [2073, 153, 2071, 2072] = true := by decide +kernel
theorem kc_Model_knows : g_mchk mt g_mk g_cnt md_Model_knows = true := by decide +kernel
theorem kk_Model_leaked : g_mokB md_Model_leaked 0 [2077, 153, 2075, 2076] = true := by decide +kernel
theorem kc_Model_leaked : g_mchk mt g_mk g_cnt md_Model_leaked = true := by decide +kernel
theorem kk_Model_leakedOf : g_mokB md_Model_leakedOf 0 [2081, 153, 2080, 124] = true := by decide +kernel
theorem kc_Model_leakedOf : g_mchk mt g_mk g_cnt md_Model_leakedOf = true := by decide +kernel
theorem kk_Model_guests : g_mokB md_Model_guests 0 [2085, 153, 2083, 2084] = true := by decide +kernel
theorem kc_Model_guests : g_mchk mt g_mk g_cnt md_Model_guests = true := by decide +kernel
theorem kk_Model_together : g_mokB md_Model_together 0 [2089, 153, 2087, 2088] = true := by decide +kernel
theorem kc_Model_together : g_mchk mt g_mk g_cnt md_Model_together = true := by decide +kernel
theorem kk_Model_fair : g_mokB md_Model_fair 0 [2093, 153, 2091, 2092] = true := by decide +kernel
theorem kc_Model_fair : g_mchk mt g_mk g_cnt md_Model_fair = true := by decide +kernel
theorem kk_Model_peace : g_mokB md_Model_peace 0 [2097, 153, 2095, 2096] = true := by decide +kernel
theorem kc_Model_peace : g_mchk mt g_mk g_cnt md_Model_peace = true := by decide +kernel
theorem kk_Model_isPeace : g_mokB md_Model_isPeace 0 [2101, 153, 2100, 125] = true := by decide +kernel
theorem kc_Model_isPeace : g_mchk mt g_mk g_cnt md_Model_isPeace = true := by decide +kernel
theorem kk_Model_ones : g_mokB md_Model_ones 1 [2104, 153, 2103] = true := by decide +kernel
theorem kc_Model_ones : g_mchk mt g_mk g_cnt md_Model_ones = true := by decide +kernel
theorem kk_Model_peaceIn : g_mokB md_Model_peaceIn 0 [2108, 153, 2106, 2107] = true := by decide +kernel
theorem kc_Model_peaceIn : g_mchk mt g_mk g_cnt md_Model_peaceIn = true := by decide +kernel
theorem kk_Model_save : g_mokB md_Model_save 0 [2112, 153, 2111, 126] = true := by decide +kernel
theorem kc_Model_save : g_mchk mt g_mk g_cnt md_Model_save = true := by decide +kernel
theorem kk_Model_bestNight : g_mokB md_Model_bestNight 0 [2116, 153, 2115, 127] = true := by decide +kernel
theorem kc_Model_bestNight : g_mchk mt g_mk g_cnt md_Model_bestNight = true := by decide +kernel
theorem kk_Model_layBest : g_mokB md_Model_layBest 0 [2120, 153, 2119, 128] = true := by decide +kernel
theorem kc_Model_layBest : g_mchk mt g_mk g_cnt md_Model_layBest = true := by decide +kernel
theorem kk_Model_sleep : g_mokB md_Model_sleep 0 [2124, 153, 2123, 129] = true := by decide +kernel
theorem kc_Model_sleep : g_mchk mt g_mk g_cnt md_Model_sleep = true := by decide +kernel
theorem kk_Model_doTell : g_mokB md_Model_doTell 0 [2128, 153, 2127, 130] = true := by decide +kernel
theorem kc_Model_doTell : g_mchk mt g_mk g_cnt md_Model_doTell = true := by decide +kernel
theorem kk_Model_bringBack : g_mokB md_Model_bringBack 0 [2133, 153, 2132, 131] = true := by decide +kernel
theorem kc_Model_bringBack : g_mchk mt g_mk g_cnt md_Model_bringBack = true := by decide +kernel
theorem kk_Model_churchIn : g_mokB md_Model_churchIn 0 [2137, 153, 2135, 2136] = true := by decide +kernel
theorem kc_Model_churchIn : g_mchk mt g_mk g_cnt md_Model_churchIn = true := by decide +kernel
theorem kk_Model_knowsIn : g_mokB md_Model_knowsIn 0 [2141, 153, 2139, 2140] = true := by decide +kernel
theorem kc_Model_knowsIn : g_mchk mt g_mk g_cnt md_Model_knowsIn = true := by decide +kernel
theorem kk_Model_leaksIn : g_mokB md_Model_leaksIn 0 [2145, 153, 2143, 2144] = true := by decide +kernel
theorem kc_Model_leaksIn : g_mchk mt g_mk g_cnt md_Model_leaksIn = true := by decide +kernel
theorem kk_Model_crossed : g_mokB md_Model_crossed 0 [2149, 153, 2147, 2148] = true := by decide +kernel
theorem kc_Model_crossed : g_mchk mt g_mk g_cnt md_Model_crossed = true := by decide +kernel
theorem kk_Model_crossedOf : g_mokB md_Model_crossedOf 0 [2153, 153, 2152, 132] = true := by decide +kernel
theorem kc_Model_crossedOf : g_mchk mt g_mk g_cnt md_Model_crossedOf = true := by decide +kernel
theorem kk_Model_layWalkers : g_mokB md_Model_layWalkers 0 [2157, 153, 2156, 133] = true := by decide +kernel
theorem kc_Model_layWalkers : g_mchk mt g_mk g_cnt md_Model_layWalkers = true := by decide +kernel
theorem kk_Model_bridge : g_mokB md_Model_bridge 0 [2161, 153, 2159, 2160] = true := by decide +kernel
theorem kc_Model_bridge : g_mchk mt g_mk g_cnt md_Model_bridge = true := by decide +kernel
theorem kk_Model_isOrder : g_mokB md_Model_isOrder 0 [2165, 153, 2164, 134] = true := by decide +kernel
theorem kc_Model_isOrder : g_mchk mt g_mk g_cnt md_Model_isOrder = true := by decide +kernel
theorem kk_Model_bridgeBy : g_mokB md_Model_bridgeBy 0 [2169, 153, 2168, 135] = true := by decide +kernel
theorem kc_Model_bridgeBy : g_mchk mt g_mk g_cnt md_Model_bridgeBy = true := by decide +kernel
theorem kk_Model_comesFirst : g_mokB md_Model_comesFirst 0 [2173, 153, 2172, 136] = true := by decide +kernel
theorem kc_Model_comesFirst : g_mchk mt g_mk g_cnt md_Model_comesFirst = true := by decide +kernel
theorem kk_Model_lastOver : g_mokB md_Model_lastOver 0 [2177, 153, 2175, 2176] = true := by decide +kernel
theorem kc_Model_lastOver : g_mchk mt g_mk g_cnt md_Model_lastOver = true := by decide +kernel
theorem kk_Model_rests : g_mokB md_Model_rests 0 [2181, 153, 2179, 2180] = true := by decide +kernel
theorem kc_Model_rests : g_mchk mt g_mk g_cnt md_Model_rests = true := by decide +kernel
theorem kk_Model_keepWhy : g_mokB md_Model_keepWhy 0 [2185, 153, 2184, 137] = true := by decide +kernel
theorem kc_Model_keepWhy : g_mchk mt g_mk g_cnt md_Model_keepWhy = true := by decide +kernel
theorem kk_Model_keepOf : g_mokB md_Model_keepOf 0 [2189, 153, 2188, 138] = true := by decide +kernel
theorem kc_Model_keepOf : g_mchk mt g_mk g_cnt md_Model_keepOf = true := by decide +kernel
theorem kk_Model_holds : g_mokB md_Model_holds 0 [2193, 153, 2191, 2192] = true := by decide +kernel
theorem kc_Model_holds : g_mchk mt g_mk g_cnt md_Model_holds = true := by decide +kernel
theorem kk_Model_plays : g_mokB md_Model_plays 0 [2197, 153, 2195, 2196] = true := by decide +kernel
theorem kc_Model_plays : g_mchk mt g_mk g_cnt md_Model_plays = true := by decide +kernel
theorem kk_Model_playedOf : g_mokB md_Model_playedOf 0 [2201, 153, 2200, 139] = true := by decide +kernel
theorem kc_Model_playedOf : g_mchk mt g_mk g_cnt md_Model_playedOf = true := by decide +kernel
theorem kk_Model_doesKeep : g_mokB md_Model_doesKeep 1 [2204, 153, 2203] = true := by decide +kernel
theorem kc_Model_doesKeep : g_mchk mt g_mk g_cnt md_Model_doesKeep = true := by decide +kernel
theorem kk_Model_bestRule : g_mokB md_Model_bestRule 0 [2208, 153, 2206, 2207] = true := by decide +kernel
theorem kc_Model_bestRule : g_mchk mt g_mk g_cnt md_Model_bestRule = true := by decide +kernel
theorem kk_Model_fits : g_mokB md_Model_fits 0 [2212, 153, 2210, 2211] = true := by decide +kernel
theorem kc_Model_fits : g_mchk mt g_mk g_cnt md_Model_fits = true := by decide +kernel
theorem kk_Model_could : g_mokB md_Model_could 0 [2216, 153, 2214, 2215] = true := by decide +kernel
theorem kc_Model_could : g_mchk mt g_mk g_cnt md_Model_could = true := by decide +kernel
theorem kk_Model_fitsIn : g_mokB md_Model_fitsIn 0 [2220, 153, 2219, 140] = true := by decide +kernel
theorem kc_Model_fitsIn : g_mchk mt g_mk g_cnt md_Model_fitsIn = true := by decide +kernel
theorem kk_Model_surely : g_mokB md_Model_surely 0 [2224, 153, 2222, 2223] = true := by decide +kernel
theorem kc_Model_surely : g_mchk mt g_mk g_cnt md_Model_surely = true := by decide +kernel
theorem kk_Model_fitsWith : g_mokB md_Model_fitsWith 0 [2228, 153, 2226, 2227] = true := by decide +kernel
theorem kc_Model_fitsWith : g_mchk mt g_mk g_cnt md_Model_fitsWith = true := by decide +kernel
theorem kk_Model_ask : g_mokB md_Model_ask 0 [2232, 153, 2230, 2231] = true := by decide +kernel
theorem kc_Model_ask : g_mchk mt g_mk g_cnt md_Model_ask = true := by decide +kernel
theorem kk_Model_lays : g_mokB md_Model_lays 0 [2236, 153, 2234, 2235] = true := by decide +kernel
theorem kc_Model_lays : g_mchk mt g_mk g_cnt md_Model_lays = true := by decide +kernel
theorem kk_Model_isNot : g_mokB md_Model_isNot 0 [2240, 153, 2239, 141] = true := by decide +kernel
theorem kc_Model_isNot : g_mchk mt g_mk g_cnt md_Model_isNot = true := by decide +kernel
theorem kk_Model_note : g_mokB md_Model_note 0 [2244, 153, 2243, 142] = true := by decide +kernel
theorem kc_Model_note : g_mchk mt g_mk g_cnt md_Model_note = true := by decide +kernel
theorem kk_Model_laysBest : g_mokB md_Model_laysBest 0 [2248, 153, 2246, 2247] = true := by decide +kernel
theorem kc_Model_laysBest : g_mchk mt g_mk g_cnt md_Model_laysBest = true := by decide +kernel
theorem kk_Model_night : g_mokB md_Model_night 0 [2252, 153, 2250, 2251] = true := by decide +kernel
theorem kc_Model_night : g_mchk mt g_mk g_cnt md_Model_night = true := by decide +kernel
theorem kk_Model_nights : g_mokB md_Model_nights 0 [2256, 153, 2254, 2255] = true := by decide +kernel
theorem kc_Model_nights : g_mchk mt g_mk g_cnt md_Model_nights = true := by decide +kernel
theorem kk_Model_seed : g_mokB md_Model_seed 0 [2260, 153, 2258, 2259] = true := by decide +kernel
theorem kc_Model_seed : g_mchk mt g_mk g_cnt md_Model_seed = true := by decide +kernel
theorem kk_Model_undo : g_mokB md_Model_undo 0 [2265, 153, 2263, 2264] = true := by decide +kernel
theorem kc_Model_undo : g_mchk mt g_mk g_cnt md_Model_undo = true := by decide +kernel
theorem kk_Model_image : g_mokB md_Model_image 0 [2269, 153, 2267, 2268] = true := by decide +kernel
theorem kc_Model_image : g_mchk mt g_mk g_cnt md_Model_image = true := by decide +kernel
theorem kk_Model_back : g_mokB md_Model_back 0 [2273, 153, 2271, 2272] = true := by decide +kernel
theorem kc_Model_back : g_mchk mt g_mk g_cnt md_Model_back = true := by decide +kernel
theorem kk_Model_led : g_mokB md_Model_led 0 [2277, 153, 2275, 2276] = true := by decide +kernel
theorem kc_Model_led : g_mchk mt g_mk g_cnt md_Model_led = true := by decide +kernel
theorem kk_Model_size : g_mokB md_Model_size 0 [2281, 153, 2279, 2280] = true := by decide +kernel
theorem kc_Model_size : g_mchk mt g_mk g_cnt md_Model_size = true := by decide +kernel
theorem kk_Model_trouble : g_mokB md_Model_trouble 0 [2285, 153, 2283, 2284] = true := by decide +kernel
theorem kc_Model_trouble : g_mchk mt g_mk g_cnt md_Model_trouble = true := by decide +kernel
theorem kk_Arrays_fill : g_mokB md_Arrays_fill 1 [643, 156, 642] = true := by decide +kernel
theorem kc_Arrays_fill : g_mchk mt g_mk g_cnt md_Arrays_fill = true := by decide +kernel
theorem kk_Integer_bitCount : g_mokB md_Integer_bitCount 1 [819, 161, 818] = true := by decide +kernel
theorem kc_Integer_bitCount : g_mchk mt g_mk g_cnt md_Integer_bitCount = true := by decide +kernel
