theorem kk_Town_leaksIn : g_mokB md_Town_leaksIn 0 [1288, 144, 1286, 1287] = true := by decide +kernel
theorem kc_Town_leaksIn : g_mchk mt g_mk g_cnt md_Town_leaksIn = true := by decide +kernel
theorem kk_Town_crossed : g_mokB md_Town_crossed 0 [1298, 144, 1296, 1297] = true := by decide +kernel
theorem kc_Town_crossed : g_mchk mt g_mk g_cnt md_Town_crossed = true := by decide +kernel
theorem kk_Town_bridge : g_mokB md_Town_bridge 0 [1336, 144, 1334, 1335] = true := by decide +kernel
theorem kc_Town_bridge : g_mchk mt g_mk g_cnt md_Town_bridge = true := by decide +kernel
theorem kk_Town_isOrder : g_mokB md_Town_isOrder 0 [1340, 144, 1339, 63] = true := by decide +kernel
theorem kc_Town_isOrder : g_mchk mt g_mk g_cnt md_Town_isOrder = true := by decide +kernel
theorem kk_Town_lastOver : g_mokB md_Town_lastOver 0 [1356, 144, 1354, 1355] = true := by decide +kernel
theorem kc_Town_lastOver : g_mchk mt g_mk g_cnt md_Town_lastOver = true := by decide +kernel
theorem kk_Town_rests : g_mokB md_Town_rests 0 [1360, 144, 1358, 1359] = true := by decide +kernel
theorem kc_Town_rests : g_mchk mt g_mk g_cnt md_Town_rests = true := by decide +kernel
theorem kk_Town_bargainTrouble : g_mokB md_Town_bargainTrouble 0 [1364, 144, 1363, 66] = true := by decide +kernel
theorem kc_Town_bargainTrouble : g_mchk mt g_mk g_cnt md_Town_bargainTrouble = true := by decide +kernel
theorem kk_Town_holds : g_mokB md_Town_holds 0 [1374, 144, 1372, 1373] = true := by decide +kernel
theorem kc_Town_holds : g_mchk mt g_mk g_cnt md_Town_holds = true := by decide +kernel
theorem kk_Town_plays : g_mokB md_Town_plays 0 [1385, 144, 1383, 1384] = true := by decide +kernel
theorem kc_Town_plays : g_mchk mt g_mk g_cnt md_Town_plays = true := by decide +kernel
theorem kk_Town_bestRule : g_mokB md_Town_bestRule 0 [1401, 144, 1399, 1400] = true := by decide +kernel
theorem kc_Town_bestRule : g_mchk mt g_mk g_cnt md_Town_bestRule = true := by decide +kernel
theorem kk_Town_fits : g_mokB md_Town_fits 0 [1409, 144, 1407, 1408] = true := by decide +kernel
theorem kc_Town_fits : g_mchk mt g_mk g_cnt md_Town_fits = true := by decide +kernel
theorem kk_Town_fitsOf : g_mokB md_Town_fitsOf 0 [1413, 144, 1412, 67] = true := by decide +kernel
theorem kc_Town_fitsOf : g_mchk mt g_mk g_cnt md_Town_fitsOf = true := by decide +kernel
theorem kk_Town_could : g_mokB md_Town_could 0 [1425, 144, 1423, 1424] = true := by decide +kernel
theorem kc_Town_could : g_mchk mt g_mk g_cnt md_Town_could = true := by decide +kernel
theorem kk_Town_surely : g_mokB md_Town_surely 0 [1437, 144, 1435, 1436] = true := by decide +kernel
theorem kc_Town_surely : g_mchk mt g_mk g_cnt md_Town_surely = true := by decide +kernel
theorem kk_Town_fitsWith : g_mokB md_Town_fitsWith 0 [1446, 144, 1444, 1445] = true := by decide +kernel
theorem kc_Town_fitsWith : g_mchk mt g_mk g_cnt md_Town_fitsWith = true := by decide +kernel
theorem kk_Town_isPlace : g_mokB md_Town_isPlace 0 [1450, 144, 1449, 69] = true := by decide +kernel
theorem kc_Town_isPlace : g_mchk mt g_mk g_cnt md_Town_isPlace = true := by decide +kernel
theorem kk_Town_ask : g_mokB md_Town_ask 0 [1455, 144, 1453, 1454] = true := by decide +kernel
theorem kc_Town_ask : g_mchk mt g_mk g_cnt md_Town_ask = true := by decide +kernel
theorem kk_Town_lays : g_mokB md_Town_lays 0 [1467, 144, 1465, 1466] = true := by decide +kernel
theorem kc_Town_lays : g_mchk mt g_mk g_cnt md_Town_lays = true := by decide +kernel
theorem kk_Town_refuses : g_mokB md_Town_refuses 0 [1471, 144, 1470, 71] = true := by decide +kernel
theorem kc_Town_refuses : g_mchk mt g_mk g_cnt md_Town_refuses = true := by decide +kernel
theorem kk_Town_grants : g_mokB md_Town_grants 0 [1481, 144, 1480, 72] = true := by decide +kernel
theorem kc_Town_grants : g_mchk mt g_mk g_cnt md_Town_grants = true := by decide +kernel
theorem kk_Town_laysBest : g_mokB md_Town_laysBest 0 [1485, 144, 1483, 1484] = true := by decide +kernel
theorem kc_Town_laysBest : g_mchk mt g_mk g_cnt md_Town_laysBest = true := by decide +kernel
theorem kk_Town_night : g_mokB md_Town_night 0 [1490, 144, 1488, 1489] = true := by decide +kernel
theorem kc_Town_night : g_mchk mt g_mk g_cnt md_Town_night = true := by decide +kernel
theorem kk_Town_nights : g_mokB md_Town_nights 0 [1495, 144, 1493, 1494] = true := by decide +kernel
theorem kc_Town_nights : g_mchk mt g_mk g_cnt md_Town_nights = true := by decide +kernel
theorem kk_Town_seed : g_mokB md_Town_seed 0 [1500, 144, 1498, 1499] = true := by decide +kernel
theorem kc_Town_seed : g_mchk mt g_mk g_cnt md_Town_seed = true := by decide +kernel
theorem kk_Town_undo : g_mokB md_Town_undo 0 [1505, 144, 1503, 1504] = true := by decide +kernel
theorem kc_Town_undo : g_mchk mt g_mk g_cnt md_Town_undo = true := by decide +kernel
theorem kk_Town_image : g_mokB md_Town_image 0 [1513, 144, 1511, 1512] = true := by decide +kernel
theorem kc_Town_image : g_mchk mt g_mk g_cnt md_Town_image = true := by decide +kernel
theorem kk_Town_back : g_mokB md_Town_back 0 [1521, 144, 1519, 1520] = true := by decide +kernel
theorem kc_Town_back : g_mchk mt g_mk g_cnt md_Town_back = true := by decide +kernel
theorem kk_Town_size : g_mokB md_Town_size 0 [1529, 144, 1527, 1528] = true := by decide +kernel
theorem kc_Town_size : g_mchk mt g_mk g_cnt md_Town_size = true := by decide +kernel
theorem kk_Town_trouble : g_mokB md_Town_trouble 0 [1533, 144, 1531, 1532] = true := by decide +kernel
theorem kc_Town_trouble : g_mchk mt g_mk g_cnt md_Town_trouble = true := by decide +kernel
theorem kk_Model_init : g_mokB md_Model_init 2 [1611, 153, 1610] = true := by decide +kernel
theorem kc_Model_init : g_mchk mt g_mk g_cnt md_Model_init = true := by decide +kernel
theorem kk_Model_thrown : g_mokB md_Model_thrown 0 [1740, 153, 1738, 1739] = true := by decide +kernel
theorem kc_Model_thrown : g_mchk mt g_mk g_cnt md_Model_thrown = true := by decide +kernel
theorem kk_Model_feed : g_mokB md_Model_feed 0 [1744, 153, 1742, 1743] = true := by decide +kernel
theorem kc_Model_feed : g_mchk mt g_mk g_cnt md_Model_feed = true := by decide +kernel
theorem kk_Model_towns : g_mokB md_Model_towns 0 [1748, 153, 1746, 1747] = true := by decide +kernel
theorem kc_Model_towns : g_mchk mt g_mk g_cnt md_Model_towns = true := by decide +kernel
theorem kk_Model_good : g_mokB md_Model_good 0 [1752, 153, 1751, 74] = true := by decide +kernel
theorem kc_Model_good : g_mchk mt g_mk g_cnt md_Model_good = true := by decide +kernel
theorem kk_Model_within : g_mokB md_Model_within 1 [1755, 153, 1754] = true := by decide +kernel
theorem kc_Model_within : g_mchk mt g_mk g_cnt md_Model_within = true := by decide +kernel
theorem kk_Model_no : g_mokB md_Model_no 0 [1759, 153, 1758, 75] = true := by decide +kernel
theorem kc_Model_no : g_mchk mt g_mk g_cnt md_Model_no = true := by decide +kernel
theorem kk_Model_next : g_mokB md_Model_next 0 [1763, 153, 1762, 76] = true := by decide +kernel
theorem kc_Model_next : g_mchk mt g_mk g_cnt md_Model_next = true := by decide +kernel
theorem kk_Model_look : g_mokB md_Model_look 0 [1767, 153, 1766, 77] = true := by decide +kernel
theorem kc_Model_look : g_mchk mt g_mk g_cnt md_Model_look = true := by decide +kernel
theorem kk_Model_isSmall : g_mokB md_Model_isSmall 1 [1770, 153, 1769] = true := by decide +kernel
theorem kc_Model_isSmall : g_mchk mt g_mk g_cnt md_Model_isSmall = true := by decide +kernel
theorem kk_Model_isDigit : g_mokB md_Model_isDigit 1 [1773, 153, 1772] = true := by decide +kernel
theorem kc_Model_isDigit : g_mchk mt g_mk g_cnt md_Model_isDigit = true := by decide +kernel
theorem kk_Model_readLine : g_mokB md_Model_readLine 0 [1777, 153, 1776, 78] = true := by decide +kernel
theorem kc_Model_readLine : g_mchk mt g_mk g_cnt md_Model_readLine = true := by decide +kernel
theorem kk_Model_isWord : g_mokB md_Model_isWord 0 [1782, 153, 1781, 79] = true := by decide +kernel
theorem kc_Model_isWord : g_mchk mt g_mk g_cnt md_Model_isWord = true := by decide +kernel
theorem kk_Model_townsLine : g_mokB md_Model_townsLine 0 [1788, 153, 1787, 80] = true := by decide +kernel
theorem kc_Model_townsLine : g_mchk mt g_mk g_cnt md_Model_townsLine = true := by decide +kernel
theorem kk_Model_fail : g_mokB md_Model_fail 0 [1792, 153, 1791, 81] = true := by decide +kernel
theorem kc_Model_fail : g_mchk mt g_mk g_cnt md_Model_fail = true := by decide +kernel
theorem kk_Model_after : g_mokB md_Model_after 0 [1797, 153, 1796, 82] = true := by decide +kernel
theorem kc_Model_after : g_mchk mt g_mk g_cnt md_Model_after = true := by decide +kernel
theorem kk_Model_must : g_mokB md_Model_must 0 [1801, 153, 1800, 83] = true := by decide +kernel
theorem kc_Model_must : g_mchk mt g_mk g_cnt md_Model_must = true := by decide +kernel
theorem kk_Model_takesWord : g_mokB md_Model_takesWord 0 [1805, 153, 1804, 84] = true := by decide +kernel
theorem kc_Model_takesWord : g_mchk mt g_mk g_cnt md_Model_takesWord = true := by decide +kernel
theorem kk_Model_number : g_mokB md_Model_number 0 [1809, 153, 1808, 85] = true := by decide +kernel
theorem kc_Model_number : g_mchk mt g_mk g_cnt md_Model_number = true := by decide +kernel
theorem kk_Model_numberHere : g_mokB md_Model_numberHere 0 [1813, 153, 1812, 86] = true := by decide +kernel
theorem kc_Model_numberHere : g_mchk mt g_mk g_cnt md_Model_numberHere = true := by decide +kernel
theorem kk_Model_begins : g_mokB md_Model_begins 0 [1821, 153, 1820, 87] = true := by decide +kernel
theorem kc_Model_begins : g_mchk mt g_mk g_cnt md_Model_begins = true := by decide +kernel
theorem kk_Model_houseLine : g_mokB md_Model_houseLine 0 [1825, 153, 1824, 88] = true := by decide +kernel
theorem kc_Model_houseLine : g_mchk mt g_mk g_cnt md_Model_houseLine = true := by decide +kernel
theorem kk_Model_newName : g_mokB md_Model_newName 0 [1829, 153, 1828, 89] = true := by decide +kernel
theorem kc_Model_newName : g_mchk mt g_mk g_cnt md_Model_newName = true := by decide +kernel
theorem kk_Model_mustName : g_mokB md_Model_mustName 0 [1833, 153, 1832, 90] = true := by decide +kernel
theorem kc_Model_mustName : g_mchk mt g_mk g_cnt md_Model_mustName = true := by decide +kernel
theorem kk_Model_find : g_mokB md_Model_find 0 [1844, 153, 1843, 91] = true := by decide +kernel
theorem kc_Model_find : g_mchk mt g_mk g_cnt md_Model_find = true := by decide +kernel
theorem kk_Model_bedsOf : g_mokB md_Model_bedsOf 0 [1851, 153, 1850, 92] = true := by decide +kernel
theorem kc_Model_bedsOf : g_mchk mt g_mk g_cnt md_Model_bedsOf = true := by decide +kernel
theorem kk_Model_personLine : g_mokB md_Model_personLine 0 [1855, 153, 1854, 93] = true := by decide +kernel
theorem kc_Model_personLine : g_mchk mt g_mk g_cnt md_Model_personLine = true := by decide +kernel
theorem kk_Model_named : g_mokB md_Model_named 0 [1864, 153, 1863, 94] = true := by decide +kernel
theorem kc_Model_named : g_mchk mt g_mk g_cnt md_Model_named = true := by decide +kernel
theorem kk_Model_foesLine : g_mokB md_Model_foesLine 0 [1870, 153, 1869, 95] = true := by decide +kernel
theorem kc_Model_foesLine : g_mchk mt g_mk g_cnt md_Model_foesLine = true := by decide +kernel
theorem kk_Model_passed : g_mokB md_Model_passed 0 [1874, 153, 1873, 96] = true := by decide +kernel
theorem kc_Model_passed : g_mchk mt g_mk g_cnt md_Model_passed = true := by decide +kernel
theorem kk_Model_hasBit : g_mokB md_Model_hasBit 1 [1877, 153, 1876] = true := by decide +kernel
theorem kc_Model_hasBit : g_mchk mt g_mk g_cnt md_Model_hasBit = true := by decide +kernel
theorem kk_Model_wantsLine : g_mokB md_Model_wantsLine 0 [1881, 153, 1880, 97] = true := by decide +kernel
theorem kc_Model_wantsLine : g_mchk mt g_mk g_cnt md_Model_wantsLine = true := by decide +kernel
theorem kk_Model_sideOfHouse : g_mokB md_Model_sideOfHouse 0 [1885, 153, 1884, 98] = true := by decide +kernel
theorem kc_Model_sideOfHouse : g_mchk mt g_mk g_cnt md_Model_sideOfHouse = true := by decide +kernel
theorem kk_Model_sideOfHome : g_mokB md_Model_sideOfHome 0 [1889, 153, 1888, 99] = true := by decide +kernel
theorem kc_Model_sideOfHome : g_mchk mt g_mk g_cnt md_Model_sideOfHome = true := by decide +kernel
theorem kk_Model_keepsLine : g_mokB md_Model_keepsLine 0 [1893, 153, 1892, 100] = true := by decide +kernel
theorem kc_Model_keepsLine : g_mchk mt g_mk g_cnt md_Model_keepsLine = true := by decide +kernel
theorem kk_Model_illLine : g_mokB md_Model_illLine 0 [1897, 153, 1896, 101] = true := by decide +kernel
theorem kc_Model_illLine : g_mchk mt g_mk g_cnt md_Model_illLine = true := by decide +kernel
theorem kk_Model_shoeLine : g_mokB md_Model_shoeLine 0 [1901, 153, 1900, 102] = true := by decide +kernel
theorem kc_Model_shoeLine : g_mchk mt g_mk g_cnt md_Model_shoeLine = true := by decide +kernel
theorem kk_Model_coldLine : g_mokB md_Model_coldLine 0 [1905, 153, 1904, 103] = true := by decide +kernel
theorem kc_Model_coldLine : g_mchk mt g_mk g_cnt md_Model_coldLine = true := by decide +kernel
theorem kk_Model_copy : g_mokB md_Model_copy 1 [1908, 153, 1907] = true := by decide +kernel
theorem kc_Model_copy : g_mchk mt g_mk g_cnt md_Model_copy = true := by decide +kernel
theorem kk_Model_manOf : g_mokB md_Model_manOf 0 [1912, 153, 1911, 104] = true := by decide +kernel
theorem kc_Model_manOf : g_mchk mt g_mk g_cnt md_Model_manOf = true := by decide +kernel
theorem kk_Model_fault : g_mokB md_Model_fault 0 [1916, 153, 1914, 1915] = true := by decide +kernel
theorem kc_Model_fault : g_mchk mt g_mk g_cnt md_Model_fault = true := by decide +kernel
theorem kk_Model_where : g_mokB md_Model_where 0 [1920, 153, 1918, 1919] = true := by decide +kernel
theorem kc_Model_where : g_mchk mt g_mk g_cnt md_Model_where = true := by decide +kernel
theorem kk_Model_house : g_mokB md_Model_house 0 [1924, 153, 1922, 1923] = true := by decide +kernel
theorem kc_Model_house : g_mchk mt g_mk g_cnt md_Model_house = true := by decide +kernel
theorem kk_Model_isHouse : g_mokB md_Model_isHouse 0 [1928, 153, 1927, 105] = true := by decide +kernel
theorem kc_Model_isHouse : g_mchk mt g_mk g_cnt md_Model_isHouse = true := by decide +kernel
theorem kk_Model_person : g_mokB md_Model_person 0 [1932, 153, 1930, 1931] = true := by decide +kernel
theorem kc_Model_person : g_mchk mt g_mk g_cnt md_Model_person = true := by decide +kernel
theorem kk_Model_isPerson : g_mokB md_Model_isPerson 0 [1936, 153, 1935, 106] = true := by decide +kernel
theorem kc_Model_isPerson : g_mchk mt g_mk g_cnt md_Model_isPerson = true := by decide +kernel
theorem kk_Model_its : g_mokB md_Model_its 0 [1940, 153, 1939, 107] = true := by decide +kernel
theorem kc_Model_its : g_mchk mt g_mk g_cnt md_Model_its = true := by decide +kernel
theorem kk_Model_houseOf : g_mokB md_Model_houseOf 0 [1944, 153, 1942, 1943] = true := by decide +kernel
theorem kc_Model_houseOf : g_mchk mt g_mk g_cnt md_Model_houseOf = true := by decide +kernel
theorem kk_Model_isBed : g_mokB md_Model_isBed 0 [1948, 153, 1947, 108] = true := by decide +kernel
theorem kc_Model_isBed : g_mchk mt g_mk g_cnt md_Model_isBed = true := by decide +kernel
theorem kk_Model_wants : g_mokB md_Model_wants 0 [1952, 153, 1950, 1951] = true := by decide +kernel
theorem kc_Model_wants : g_mchk mt g_mk g_cnt md_Model_wants = true := by decide +kernel
theorem kk_Model_bed : g_mokB md_Model_bed 0 [1956, 153, 1954, 1955] = true := by decide +kernel
theorem kc_Model_bed : g_mchk mt g_mk g_cnt md_Model_bed = true := by decide +kernel
theorem kk_Model_bedNow : g_mokB md_Model_bedNow 0 [1960, 153, 1959, 109] = true := by decide +kernel
theorem kc_Model_bedNow : g_mchk mt g_mk g_cnt md_Model_bedNow = true := by decide +kernel
theorem kk_Model_who : g_mokB md_Model_who 0 [1964, 153, 1962, 1963] = true := by decide +kernel
theorem kc_Model_who : g_mchk mt g_mk g_cnt md_Model_who = true := by decide +kernel
theorem kk_Model_wrong : g_mokB md_Model_wrong 0 [1968, 153, 1966, 1967] = true := by decide +kernel
theorem kc_Model_wrong : g_mchk mt g_mk g_cnt md_Model_wrong = true := by decide +kernel
theorem kk_Model_layBeds : g_mokB md_Model_layBeds 0 [1972, 153, 1971, 110] = true := by decide +kernel
theorem kc_Model_layBeds : g_mchk mt g_mk g_cnt md_Model_layBeds = true := by decide +kernel
theorem kk_Model_wrongWith : g_mokB md_Model_wrongWith 0 [1976, 153, 1975, 111] = true := by decide +kernel
theorem kc_Model_wrongWith : g_mchk mt g_mk g_cnt md_Model_wrongWith = true := by decide +kernel
theorem kk_Model_houseSide : g_mokB md_Model_houseSide 0 [1980, 153, 1979, 112] = true := by decide +kernel
theorem kc_Model_houseSide : g_mchk mt g_mk g_cnt md_Model_houseSide = true := by decide +kernel
theorem kk_Model_lastIn : g_mokB md_Model_lastIn 0 [1984, 153, 1983, 113] = true := by decide +kernel
theorem kc_Model_lastIn : g_mchk mt g_mk g_cnt md_Model_lastIn = true := by decide +kernel
theorem kk_Model_firstWrong : g_mokB md_Model_firstWrong 0 [1988, 153, 1986, 1987] = true := by decide +kernel
theorem kc_Model_firstWrong : g_mchk mt g_mk g_cnt md_Model_firstWrong = true := by decide +kernel
theorem kk_Model_firstWrongOf : g_mokB md_Model_firstWrongOf 0 [1992, 153, 1991, 114] = true := by decide +kernel
theorem kc_Model_firstWrongOf : g_mchk mt g_mk g_cnt md_Model_firstWrongOf = true := by decide +kernel
theorem kk_Model_wrongIn : g_mokB md_Model_wrongIn 0 [1996, 153, 1994, 1995] = true := by decide +kernel
theorem kc_Model_wrongIn : g_mchk mt g_mk g_cnt md_Model_wrongIn = true := by decide +kernel
