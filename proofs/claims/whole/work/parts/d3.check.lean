theorem kk_Model_worth : g_mokB md_Model_worth 0 [1999, 153, 1997, 1998] = true := by decide +kernel
theorem kc_Model_worth : g_mchk mt g_mk g_cnt md_Model_worth = true := by decide +kernel
theorem kk_Model_isSide : g_mokB md_Model_isSide 0 [2003, 153, 2002, 115] = true := by decide +kernel
theorem kc_Model_isSide : g_mchk mt g_mk g_cnt md_Model_isSide = true := by decide +kernel
theorem kk_Model_worthOf : g_mokB md_Model_worthOf 0 [2007, 153, 2006, 116] = true := by decide +kernel
theorem kc_Model_worthOf : g_mchk mt g_mk g_cnt md_Model_worthOf = true := by decide +kernel
theorem kk_Model_rows : g_mokB md_Model_rows 0 [2011, 153, 2009, 2010] = true := by decide +kernel
theorem kc_Model_rows : g_mchk mt g_mk g_cnt md_Model_rows = true := by decide +kernel
theorem kk_Model_seek : g_mokB md_Model_seek 0 [2015, 153, 2014, 117] = true := by decide +kernel
theorem kc_Model_seek : g_mchk mt g_mk g_cnt md_Model_seek = true := by decide +kernel
theorem kk_Model_seekFrom : g_mokB md_Model_seekFrom 0 [2020, 153, 2019, 118] = true := by decide +kernel
theorem kc_Model_seekFrom : g_mchk mt g_mk g_cnt md_Model_seekFrom = true := by decide +kernel
theorem kk_Model_endRow : g_mokB md_Model_endRow 0 [2024, 153, 2023, 119] = true := by decide +kernel
theorem kc_Model_endRow : g_mchk mt g_mk g_cnt md_Model_endRow = true := by decide +kernel
theorem kk_Model_areShoesThere : g_mokB md_Model_areShoesThere 0 [2028, 153, 2027, 120] = true := by decide +kernel
theorem kc_Model_areShoesThere : g_mchk mt g_mk g_cnt md_Model_areShoesThere = true := by decide +kernel
theorem kk_Model_mayBeIn : g_mokB md_Model_mayBeIn 0 [2032, 153, 2031, 121] = true := by decide +kernel
theorem kc_Model_mayBeIn : g_mchk mt g_mk g_cnt md_Model_mayBeIn = true := by decide +kernel
theorem kk_Model_best : g_mokB md_Model_best 0 [2036, 153, 2034, 2035] = true := by decide +kernel
theorem kc_Model_best : g_mchk mt g_mk g_cnt md_Model_best = true := by decide +kernel
theorem kk_Model_bestChurch : g_mokB md_Model_bestChurch 0 [2040, 153, 2038, 2039] = true := by decide +kernel
theorem kc_Model_bestChurch : g_mchk mt g_mk g_cnt md_Model_bestChurch = true := by decide +kernel
theorem kk_Model_bestWorth : g_mokB md_Model_bestWorth 0 [2044, 153, 2042, 2043] = true := by decide +kernel
theorem kc_Model_bestWorth : g_mchk mt g_mk g_cnt md_Model_bestWorth = true := by decide +kernel
theorem kk_Model_swap : g_mokB md_Model_swap 0 [2048, 153, 2046, 2047] = true := by decide +kernel
theorem kc_Model_swap : g_mchk mt g_mk g_cnt md_Model_swap = true := by decide +kernel
theorem kk_Model_isRightSwapped : g_mokB md_Model_isRightSwapped 0 [2052, 153, 2051, 122] = true := by decide +kernel
theorem kc_Model_isRightSwapped : g_mchk mt g_mk g_cnt md_Model_isRightSwapped = true := by decide +kernel
theorem kk_Model_turnsOf : g_mokB md_Model_turnsOf 0 [2056, 153, 2054, 2055] = true := by decide +kernel
theorem kc_Model_turnsOf : g_mchk mt g_mk g_cnt md_Model_turnsOf = true := by decide +kernel
theorem kk_Model_ago : g_mokB md_Model_ago 0 [2060, 153, 2058, 2059] = true := by decide +kernel
theorem kc_Model_ago : g_mchk mt g_mk g_cnt md_Model_ago = true := by decide +kernel
theorem kk_Model_slept : g_mokB md_Model_slept 0 [2064, 153, 2062, 2063] = true := by decide +kernel
theorem kc_Model_slept : g_mchk mt g_mk g_cnt md_Model_slept = true := by decide +kernel
theorem kk_Model_sleptOf : g_mokB md_Model_sleptOf 0 [2068, 153, 2067, 123] = true := by decide +kernel
theorem kc_Model_sleptOf : g_mchk mt g_mk g_cnt md_Model_sleptOf = true := by decide +kernel
theorem kk_Model_knows : g_mokB md_Model_knows 0 [2072, 153, 2070, 2071] = true := by decide +kernel
theorem kc_Model_knows : g_mchk mt g_mk g_cnt md_Model_knows = true := by decide +kernel
theorem kk_Model_leaked : g_mokB md_Model_leaked 0 [2076, 153, 2074, 2075] = true := by decide +kernel
theorem kc_Model_leaked : g_mchk mt g_mk g_cnt md_Model_leaked = true := by decide +kernel
theorem kk_Model_leakedOf : g_mokB md_Model_leakedOf 0 [2080, 153, 2079, 124] = true := by decide +kernel
theorem kc_Model_leakedOf : g_mchk mt g_mk g_cnt md_Model_leakedOf = true := by decide +kernel
theorem kk_Model_guests : g_mokB md_Model_guests 0 [2084, 153, 2082, 2083] = true := by decide +kernel
theorem kc_Model_guests : g_mchk mt g_mk g_cnt md_Model_guests = true := by decide +kernel
theorem kk_Model_together : g_mokB md_Model_together 0 [2088, 153, 2086, 2087] = true := by decide +kernel
theorem kc_Model_together : g_mchk mt g_mk g_cnt md_Model_together = true := by decide +kernel
theorem kk_Model_fair : g_mokB md_Model_fair 0 [2092, 153, 2090, 2091] = true := by decide +kernel
theorem kc_Model_fair : g_mchk mt g_mk g_cnt md_Model_fair = true := by decide +kernel
theorem kk_Model_peace : g_mokB md_Model_peace 0 [2096, 153, 2094, 2095] = true := by decide +kernel
theorem kc_Model_peace : g_mchk mt g_mk g_cnt md_Model_peace = true := by decide +kernel
theorem kk_Model_isPeace : g_mokB md_Model_isPeace 0 [2100, 153, 2099, 125] = true := by decide +kernel
theorem kc_Model_isPeace : g_mchk mt g_mk g_cnt md_Model_isPeace = true := by decide +kernel
theorem kk_Model_ones : g_mokB md_Model_ones 1 [2103, 153, 2102] = true := by decide +kernel
theorem kc_Model_ones : g_mchk mt g_mk g_cnt md_Model_ones = true := by decide +kernel
theorem kk_Model_peaceIn : g_mokB md_Model_peaceIn 0 [2107, 153, 2105, 2106] = true := by decide +kernel
theorem kc_Model_peaceIn : g_mchk mt g_mk g_cnt md_Model_peaceIn = true := by decide +kernel
theorem kk_Model_save : g_mokB md_Model_save 0 [2111, 153, 2110, 126] = true := by decide +kernel
theorem kc_Model_save : g_mchk mt g_mk g_cnt md_Model_save = true := by decide +kernel
theorem kk_Model_bestNight : g_mokB md_Model_bestNight 0 [2115, 153, 2114, 127] = true := by decide +kernel
theorem kc_Model_bestNight : g_mchk mt g_mk g_cnt md_Model_bestNight = true := by decide +kernel
theorem kk_Model_layBest : g_mokB md_Model_layBest 0 [2119, 153, 2118, 128] = true := by decide +kernel
theorem kc_Model_layBest : g_mchk mt g_mk g_cnt md_Model_layBest = true := by decide +kernel
theorem kk_Model_sleep : g_mokB md_Model_sleep 0 [2123, 153, 2122, 129] = true := by decide +kernel
theorem kc_Model_sleep : g_mchk mt g_mk g_cnt md_Model_sleep = true := by decide +kernel
theorem kk_Model_doTell : g_mokB md_Model_doTell 0 [2127, 153, 2126, 130] = true := by decide +kernel
theorem kc_Model_doTell : g_mchk mt g_mk g_cnt md_Model_doTell = true := by decide +kernel
theorem kk_Model_bringBack : g_mokB md_Model_bringBack 0 [2132, 153, 2131, 131] = true := by decide +kernel
theorem kc_Model_bringBack : g_mchk mt g_mk g_cnt md_Model_bringBack = true := by decide +kernel
theorem kk_Model_churchIn : g_mokB md_Model_churchIn 0 [2136, 153, 2134, 2135] = true := by decide +kernel
theorem kc_Model_churchIn : g_mchk mt g_mk g_cnt md_Model_churchIn = true := by decide +kernel
theorem kk_Model_knowsIn : g_mokB md_Model_knowsIn 0 [2140, 153, 2138, 2139] = true := by decide +kernel
theorem kc_Model_knowsIn : g_mchk mt g_mk g_cnt md_Model_knowsIn = true := by decide +kernel
theorem kk_Model_leaksIn : g_mokB md_Model_leaksIn 0 [2144, 153, 2142, 2143] = true := by decide +kernel
theorem kc_Model_leaksIn : g_mchk mt g_mk g_cnt md_Model_leaksIn = true := by decide +kernel
theorem kk_Model_crossed : g_mokB md_Model_crossed 0 [2148, 153, 2146, 2147] = true := by decide +kernel
theorem kc_Model_crossed : g_mchk mt g_mk g_cnt md_Model_crossed = true := by decide +kernel
theorem kk_Model_crossedOf : g_mokB md_Model_crossedOf 0 [2152, 153, 2151, 132] = true := by decide +kernel
theorem kc_Model_crossedOf : g_mchk mt g_mk g_cnt md_Model_crossedOf = true := by decide +kernel
theorem kk_Model_layWalkers : g_mokB md_Model_layWalkers 0 [2156, 153, 2155, 133] = true := by decide +kernel
theorem kc_Model_layWalkers : g_mchk mt g_mk g_cnt md_Model_layWalkers = true := by decide +kernel
theorem kk_Model_bridge : g_mokB md_Model_bridge 0 [2160, 153, 2158, 2159] = true := by decide +kernel
theorem kc_Model_bridge : g_mchk mt g_mk g_cnt md_Model_bridge = true := by decide +kernel
theorem kk_Model_isOrder : g_mokB md_Model_isOrder 0 [2164, 153, 2163, 134] = true := by decide +kernel
theorem kc_Model_isOrder : g_mchk mt g_mk g_cnt md_Model_isOrder = true := by decide +kernel
theorem kk_Model_bridgeBy : g_mokB md_Model_bridgeBy 0 [2168, 153, 2167, 135] = true := by decide +kernel
theorem kc_Model_bridgeBy : g_mchk mt g_mk g_cnt md_Model_bridgeBy = true := by decide +kernel
theorem kk_Model_comesFirst : g_mokB md_Model_comesFirst 0 [2172, 153, 2171, 136] = true := by decide +kernel
theorem kc_Model_comesFirst : g_mchk mt g_mk g_cnt md_Model_comesFirst = true := by decide +kernel
theorem kk_Model_lastOver : g_mokB md_Model_lastOver 0 [2176, 153, 2174, 2175] = true := by decide +kernel
theorem kc_Model_lastOver : g_mchk mt g_mk g_cnt md_Model_lastOver = true := by decide +kernel
theorem kk_Model_rests : g_mokB md_Model_rests 0 [2180, 153, 2178, 2179] = true := by decide +kernel
theorem kc_Model_rests : g_mchk mt g_mk g_cnt md_Model_rests = true := by decide +kernel
theorem kk_Model_keepWhy : g_mokB md_Model_keepWhy 0 [2184, 153, 2183, 137] = true := by decide +kernel
theorem kc_Model_keepWhy : g_mchk mt g_mk g_cnt md_Model_keepWhy = true := by decide +kernel
theorem kk_Model_keepOf : g_mokB md_Model_keepOf 0 [2188, 153, 2187, 138] = true := by decide +kernel
theorem kc_Model_keepOf : g_mchk mt g_mk g_cnt md_Model_keepOf = true := by decide +kernel
theorem kk_Model_holds : g_mokB md_Model_holds 0 [2192, 153, 2190, 2191] = true := by decide +kernel
theorem kc_Model_holds : g_mchk mt g_mk g_cnt md_Model_holds = true := by decide +kernel
theorem kk_Model_plays : g_mokB md_Model_plays 0 [2196, 153, 2194, 2195] = true := by decide +kernel
theorem kc_Model_plays : g_mchk mt g_mk g_cnt md_Model_plays = true := by decide +kernel
theorem kk_Model_playedOf : g_mokB md_Model_playedOf 0 [2200, 153, 2199, 139] = true := by decide +kernel
theorem kc_Model_playedOf : g_mchk mt g_mk g_cnt md_Model_playedOf = true := by decide +kernel
theorem kk_Model_doesKeep : g_mokB md_Model_doesKeep 1 [2203, 153, 2202] = true := by decide +kernel
theorem kc_Model_doesKeep : g_mchk mt g_mk g_cnt md_Model_doesKeep = true := by decide +kernel
theorem kk_Model_bestRule : g_mokB md_Model_bestRule 0 [2207, 153, 2205, 2206] = true := by decide +kernel
theorem kc_Model_bestRule : g_mchk mt g_mk g_cnt md_Model_bestRule = true := by decide +kernel
theorem kk_Model_fits : g_mokB md_Model_fits 0 [2211, 153, 2209, 2210] = true := by decide +kernel
theorem kc_Model_fits : g_mchk mt g_mk g_cnt md_Model_fits = true := by decide +kernel
theorem kk_Model_could : g_mokB md_Model_could 0 [2215, 153, 2213, 2214] = true := by decide +kernel
theorem kc_Model_could : g_mchk mt g_mk g_cnt md_Model_could = true := by decide +kernel
theorem kk_Model_fitsIn : g_mokB md_Model_fitsIn 0 [2219, 153, 2218, 140] = true := by decide +kernel
theorem kc_Model_fitsIn : g_mchk mt g_mk g_cnt md_Model_fitsIn = true := by decide +kernel
theorem kk_Model_surely : g_mokB md_Model_surely 0 [2223, 153, 2221, 2222] = true := by decide +kernel
theorem kc_Model_surely : g_mchk mt g_mk g_cnt md_Model_surely = true := by decide +kernel
theorem kk_Model_fitsWith : g_mokB md_Model_fitsWith 0 [2227, 153, 2225, 2226] = true := by decide +kernel
theorem kc_Model_fitsWith : g_mchk mt g_mk g_cnt md_Model_fitsWith = true := by decide +kernel
theorem kk_Model_ask : g_mokB md_Model_ask 0 [2231, 153, 2229, 2230] = true := by decide +kernel
theorem kc_Model_ask : g_mchk mt g_mk g_cnt md_Model_ask = true := by decide +kernel
theorem kk_Model_lays : g_mokB md_Model_lays 0 [2235, 153, 2233, 2234] = true := by decide +kernel
theorem kc_Model_lays : g_mchk mt g_mk g_cnt md_Model_lays = true := by decide +kernel
theorem kk_Model_isNot : g_mokB md_Model_isNot 0 [2239, 153, 2238, 141] = true := by decide +kernel
theorem kc_Model_isNot : g_mchk mt g_mk g_cnt md_Model_isNot = true := by decide +kernel
theorem kk_Model_note : g_mokB md_Model_note 0 [2243, 153, 2242, 142] = true := by decide +kernel
theorem kc_Model_note : g_mchk mt g_mk g_cnt md_Model_note = true := by decide +kernel
theorem kk_Model_laysBest : g_mokB md_Model_laysBest 0 [2247, 153, 2245, 2246] = true := by decide +kernel
theorem kc_Model_laysBest : g_mchk mt g_mk g_cnt md_Model_laysBest = true := by decide +kernel
theorem kk_Model_night : g_mokB md_Model_night 0 [2251, 153, 2249, 2250] = true := by decide +kernel
theorem kc_Model_night : g_mchk mt g_mk g_cnt md_Model_night = true := by decide +kernel
theorem kk_Model_nights : g_mokB md_Model_nights 0 [2255, 153, 2253, 2254] = true := by decide +kernel
theorem kc_Model_nights : g_mchk mt g_mk g_cnt md_Model_nights = true := by decide +kernel
theorem kk_Model_seed : g_mokB md_Model_seed 0 [2259, 153, 2257, 2258] = true := by decide +kernel
theorem kc_Model_seed : g_mchk mt g_mk g_cnt md_Model_seed = true := by decide +kernel
theorem kk_Model_undo : g_mokB md_Model_undo 0 [2264, 153, 2262, 2263] = true := by decide +kernel
theorem kc_Model_undo : g_mchk mt g_mk g_cnt md_Model_undo = true := by decide +kernel
theorem kk_Model_image : g_mokB md_Model_image 0 [2268, 153, 2266, 2267] = true := by decide +kernel
theorem kc_Model_image : g_mchk mt g_mk g_cnt md_Model_image = true := by decide +kernel
theorem kk_Model_back : g_mokB md_Model_back 0 [2272, 153, 2270, 2271] = true := by decide +kernel
theorem kc_Model_back : g_mchk mt g_mk g_cnt md_Model_back = true := by decide +kernel
theorem kk_Model_led : g_mokB md_Model_led 0 [2276, 153, 2274, 2275] = true := by decide +kernel
theorem kc_Model_led : g_mchk mt g_mk g_cnt md_Model_led = true := by decide +kernel
theorem kk_Model_size : g_mokB md_Model_size 0 [2280, 153, 2278, 2279] = true := by decide +kernel
theorem kc_Model_size : g_mchk mt g_mk g_cnt md_Model_size = true := by decide +kernel
theorem kk_Model_trouble : g_mokB md_Model_trouble 0 [2284, 153, 2282, 2283] = true := by decide +kernel
theorem kc_Model_trouble : g_mchk mt g_mk g_cnt md_Model_trouble = true := by decide +kernel
theorem kk_Arrays_fill : g_mokB md_Arrays_fill 1 [643, 156, 642] = true := by decide +kernel
theorem kc_Arrays_fill : g_mchk mt g_mk g_cnt md_Arrays_fill = true := by decide +kernel
theorem kk_Integer_bitCount : g_mokB md_Integer_bitCount 1 [819, 161, 818] = true := by decide +kernel
theorem kc_Integer_bitCount : g_mchk mt g_mk g_cnt md_Integer_bitCount = true := by decide +kernel
