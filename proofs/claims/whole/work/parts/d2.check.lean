theorem kk_Town_leaksIn : g_mokB md_Town_leaksIn 0 [1287, 144, 1285, 1286] = true := by decide +kernel
theorem kc_Town_leaksIn : g_mchk mt g_mk g_cnt md_Town_leaksIn = true := by decide +kernel
theorem kk_Town_crossed : g_mokB md_Town_crossed 0 [1297, 144, 1295, 1296] = true := by decide +kernel
theorem kc_Town_crossed : g_mchk mt g_mk g_cnt md_Town_crossed = true := by decide +kernel
theorem kk_Town_bridge : g_mokB md_Town_bridge 0 [1335, 144, 1333, 1334] = true := by decide +kernel
theorem kc_Town_bridge : g_mchk mt g_mk g_cnt md_Town_bridge = true := by decide +kernel
theorem kk_Town_isOrder : g_mokB md_Town_isOrder 0 [1339, 144, 1338, 63] = true := by decide +kernel
theorem kc_Town_isOrder : g_mchk mt g_mk g_cnt md_Town_isOrder = true := by decide +kernel
theorem kk_Town_lastOver : g_mokB md_Town_lastOver 0 [1355, 144, 1353, 1354] = true := by decide +kernel
theorem kc_Town_lastOver : g_mchk mt g_mk g_cnt md_Town_lastOver = true := by decide +kernel
theorem kk_Town_rests : g_mokB md_Town_rests 0 [1359, 144, 1357, 1358] = true := by decide +kernel
theorem kc_Town_rests : g_mchk mt g_mk g_cnt md_Town_rests = true := by decide +kernel
theorem kk_Town_bargainTrouble : g_mokB md_Town_bargainTrouble 0 [1363, 144, 1362, 66] = true := by decide +kernel
theorem kc_Town_bargainTrouble : g_mchk mt g_mk g_cnt md_Town_bargainTrouble = true := by decide +kernel
theorem kk_Town_holds : g_mokB md_Town_holds 0 [1373, 144, 1371, 1372] = true := by decide +kernel
theorem kc_Town_holds : g_mchk mt g_mk g_cnt md_Town_holds = true := by decide +kernel
theorem kk_Town_plays : g_mokB md_Town_plays 0 [1384, 144, 1382, 1383] = true := by decide +kernel
theorem kc_Town_plays : g_mchk mt g_mk g_cnt md_Town_plays = true := by decide +kernel
theorem kk_Town_bestRule : g_mokB md_Town_bestRule 0 [1400, 144, 1398, 1399] = true := by decide +kernel
theorem kc_Town_bestRule : g_mchk mt g_mk g_cnt md_Town_bestRule = true := by decide +kernel
theorem kk_Town_fits : g_mokB md_Town_fits 0 [1408, 144, 1406, 1407] = true := by decide +kernel
theorem kc_Town_fits : g_mchk mt g_mk g_cnt md_Town_fits = true := by decide +kernel
theorem kk_Town_fitsOf : g_mokB md_Town_fitsOf 0 [1412, 144, 1411, 67] = true := by decide +kernel
theorem kc_Town_fitsOf : g_mchk mt g_mk g_cnt md_Town_fitsOf = true := by decide +kernel
theorem kk_Town_could : g_mokB md_Town_could 0 [1424, 144, 1422, 1423] = true := by decide +kernel
theorem kc_Town_could : g_mchk mt g_mk g_cnt md_Town_could = true := by decide +kernel
theorem kk_Town_surely : g_mokB md_Town_surely 0 [1436, 144, 1434, 1435] = true := by decide +kernel
theorem kc_Town_surely : g_mchk mt g_mk g_cnt md_Town_surely = true := by decide +kernel
theorem kk_Town_fitsWith : g_mokB md_Town_fitsWith 0 [1445, 144, 1443, 1444] = true := by decide +kernel
theorem kc_Town_fitsWith : g_mchk mt g_mk g_cnt md_Town_fitsWith = true := by decide +kernel
theorem kk_Town_isPlace : g_mokB md_Town_isPlace 0 [1449, 144, 1448, 69] = true := by decide +kernel
theorem kc_Town_isPlace : g_mchk mt g_mk g_cnt md_Town_isPlace = true := by decide +kernel
theorem kk_Town_ask : g_mokB md_Town_ask 0 [1454, 144, 1452, 1453] = true := by decide +kernel
theorem kc_Town_ask : g_mchk mt g_mk g_cnt md_Town_ask = true := by decide +kernel
theorem kk_Town_lays : g_mokB md_Town_lays 0 [1466, 144, 1464, 1465] = true := by decide +kernel
theorem kc_Town_lays : g_mchk mt g_mk g_cnt md_Town_lays = true := by decide +kernel
theorem kk_Town_refuses : g_mokB md_Town_refuses 0 [1470, 144, 1469, 71] = true := by decide +kernel
theorem kc_Town_refuses : g_mchk mt g_mk g_cnt md_Town_refuses = true := by decide +kernel
theorem kk_Town_grants : g_mokB md_Town_grants 0 [1480, 144, 1479, 72] = true := by decide +kernel
theorem kc_Town_grants : g_mchk mt g_mk g_cnt md_Town_grants = true := by decide +kernel
theorem kk_Town_laysBest : g_mokB md_Town_laysBest 0 [1484, 144, 1482, 1483] = true := by decide +kernel
theorem kc_Town_laysBest : g_mchk mt g_mk g_cnt md_Town_laysBest = true := by decide +kernel
theorem kk_Town_night : g_mokB md_Town_night 0 [1489, 144, 1487, 1488] = true := by decide +kernel
theorem kc_Town_night : g_mchk mt g_mk g_cnt md_Town_night = true := by decide +kernel
theorem kk_Town_nights : g_mokB md_Town_nights 0 [1494, 144, 1492, 1493] = true := by decide +kernel
theorem kc_Town_nights : g_mchk mt g_mk g_cnt md_Town_nights = true := by decide +kernel
theorem kk_Town_seed : g_mokB md_Town_seed 0 [1499, 144, 1497, 1498] = true := by decide +kernel
theorem kc_Town_seed : g_mchk mt g_mk g_cnt md_Town_seed = true := by decide +kernel
theorem kk_Town_undo : g_mokB md_Town_undo 0 [1504, 144, 1502, 1503] = true := by decide +kernel
theorem kc_Town_undo : g_mchk mt g_mk g_cnt md_Town_undo = true := by decide +kernel
theorem kk_Town_image : g_mokB md_Town_image 0 [1512, 144, 1510, 1511] = true := by decide +kernel
theorem kc_Town_image : g_mchk mt g_mk g_cnt md_Town_image = true := by decide +kernel
theorem kk_Town_back : g_mokB md_Town_back 0 [1520, 144, 1518, 1519] = true := by decide +kernel
theorem kc_Town_back : g_mchk mt g_mk g_cnt md_Town_back = true := by decide +kernel
theorem kk_Town_size : g_mokB md_Town_size 0 [1528, 144, 1526, 1527] = true := by decide +kernel
theorem kc_Town_size : g_mchk mt g_mk g_cnt md_Town_size = true := by decide +kernel
theorem kk_Town_trouble : g_mokB md_Town_trouble 0 [1532, 144, 1530, 1531] = true := by decide +kernel
theorem kc_Town_trouble : g_mchk mt g_mk g_cnt md_Town_trouble = true := by decide +kernel
theorem kk_Model_init : g_mokB md_Model_init 2 [1610, 153, 1609] = true := by decide +kernel
theorem kc_Model_init : g_mchk mt g_mk g_cnt md_Model_init = true := by decide +kernel
theorem kk_Model_thrown : g_mokB md_Model_thrown 0 [1739, 153, 1737, 1738] = true := by decide +kernel
theorem kc_Model_thrown : g_mchk mt g_mk g_cnt md_Model_thrown = true := by decide +kernel
theorem kk_Model_feed : g_mokB md_Model_feed 0 [1743, 153, 1741, 1742] = true := by decide +kernel
theorem kc_Model_feed : g_mchk mt g_mk g_cnt md_Model_feed = true := by decide +kernel
theorem kk_Model_towns : g_mokB md_Model_towns 0 [1747, 153, 1745, 1746] = true := by decide +kernel
theorem kc_Model_towns : g_mchk mt g_mk g_cnt md_Model_towns = true := by decide +kernel
theorem kk_Model_good : g_mokB md_Model_good 0 [1751, 153, 1750, 74] = true := by decide +kernel
theorem kc_Model_good : g_mchk mt g_mk g_cnt md_Model_good = true := by decide +kernel
theorem kk_Model_within : g_mokB md_Model_within 1 [1754, 153, 1753] = true := by decide +kernel
theorem kc_Model_within : g_mchk mt g_mk g_cnt md_Model_within = true := by decide +kernel
theorem kk_Model_no : g_mokB md_Model_no 0 [1758, 153, 1757, 75] = true := by decide +kernel
theorem kc_Model_no : g_mchk mt g_mk g_cnt md_Model_no = true := by decide +kernel
theorem kk_Model_next : g_mokB md_Model_next 0 [1762, 153, 1761, 76] = true := by decide +kernel
theorem kc_Model_next : g_mchk mt g_mk g_cnt md_Model_next = true := by decide +kernel
theorem kk_Model_look : g_mokB md_Model_look 0 [1766, 153, 1765, 77] = true := by decide +kernel
theorem kc_Model_look : g_mchk mt g_mk g_cnt md_Model_look = true := by decide +kernel
theorem kk_Model_isSmall : g_mokB md_Model_isSmall 1 [1769, 153, 1768] = true := by decide +kernel
theorem kc_Model_isSmall : g_mchk mt g_mk g_cnt md_Model_isSmall = true := by decide +kernel
theorem kk_Model_isDigit : g_mokB md_Model_isDigit 1 [1772, 153, 1771] = true := by decide +kernel
theorem kc_Model_isDigit : g_mchk mt g_mk g_cnt md_Model_isDigit = true := by decide +kernel
theorem kk_Model_readLine : g_mokB md_Model_readLine 0 [1776, 153, 1775, 78] = true := by decide +kernel
theorem kc_Model_readLine : g_mchk mt g_mk g_cnt md_Model_readLine = true := by decide +kernel
theorem kk_Model_isWord : g_mokB md_Model_isWord 0 [1781, 153, 1780, 79] = true := by decide +kernel
theorem kc_Model_isWord : g_mchk mt g_mk g_cnt md_Model_isWord = true := by decide +kernel
theorem kk_Model_townsLine : g_mokB md_Model_townsLine 0 [1787, 153, 1786, 80] = true := by decide +kernel
theorem kc_Model_townsLine : g_mchk mt g_mk g_cnt md_Model_townsLine = true := by decide +kernel
theorem kk_Model_fail : g_mokB md_Model_fail 0 [1791, 153, 1790, 81] = true := by decide +kernel
theorem kc_Model_fail : g_mchk mt g_mk g_cnt md_Model_fail = true := by decide +kernel
theorem kk_Model_after : g_mokB md_Model_after 0 [1796, 153, 1795, 82] = true := by decide +kernel
theorem kc_Model_after : g_mchk mt g_mk g_cnt md_Model_after = true := by decide +kernel
theorem kk_Model_must : g_mokB md_Model_must 0 [1800, 153, 1799, 83] = true := by decide +kernel
theorem kc_Model_must : g_mchk mt g_mk g_cnt md_Model_must = true := by decide +kernel
theorem kk_Model_takesWord : g_mokB md_Model_takesWord 0 [1804, 153, 1803, 84] = true := by decide +kernel
theorem kc_Model_takesWord : g_mchk mt g_mk g_cnt md_Model_takesWord = true := by decide +kernel
theorem kk_Model_number : g_mokB md_Model_number 0 [1808, 153, 1807, 85] = true := by decide +kernel
theorem kc_Model_number : g_mchk mt g_mk g_cnt md_Model_number = true := by decide +kernel
theorem kk_Model_numberHere : g_mokB md_Model_numberHere 0 [1812, 153, 1811, 86] = true := by decide +kernel
theorem kc_Model_numberHere : g_mchk mt g_mk g_cnt md_Model_numberHere = true := by decide +kernel
theorem kk_Model_begins : g_mokB md_Model_begins 0 [1820, 153, 1819, 87] = true := by decide +kernel
theorem kc_Model_begins : g_mchk mt g_mk g_cnt md_Model_begins = true := by decide +kernel
theorem kk_Model_houseLine : g_mokB md_Model_houseLine 0 [1824, 153, 1823, 88] = true := by decide +kernel
theorem kc_Model_houseLine : g_mchk mt g_mk g_cnt md_Model_houseLine = true := by decide +kernel
theorem kk_Model_newName : g_mokB md_Model_newName 0 [1828, 153, 1827, 89] = true := by decide +kernel
theorem kc_Model_newName : g_mchk mt g_mk g_cnt md_Model_newName = true := by decide +kernel
theorem kk_Model_mustName : g_mokB md_Model_mustName 0 [1832, 153, 1831, 90] = true := by decide +kernel
theorem kc_Model_mustName : g_mchk mt g_mk g_cnt md_Model_mustName = true := by decide +kernel
theorem kk_Model_find : g_mokB md_Model_find 0 [1843, 153, 1842, 91] = true := by decide +kernel
theorem kc_Model_find : g_mchk mt g_mk g_cnt md_Model_find = true := by decide +kernel
theorem kk_Model_bedsOf : g_mokB md_Model_bedsOf 0 [1850, 153, 1849, 92] = true := by decide +kernel
theorem kc_Model_bedsOf : g_mchk mt g_mk g_cnt md_Model_bedsOf = true := by decide +kernel
theorem kk_Model_personLine : g_mokB md_Model_personLine 0 [1854, 153, 1853, 93] = true := by decide +kernel
theorem kc_Model_personLine : g_mchk mt g_mk g_cnt md_Model_personLine = true := by decide +kernel
theorem kk_Model_named : g_mokB md_Model_named 0 [1863, 153, 1862, 94] = true := by decide +kernel
theorem kc_Model_named : g_mchk mt g_mk g_cnt md_Model_named = true := by decide +kernel
theorem kk_Model_foesLine : g_mokB md_Model_foesLine 0 [1869, 153, 1868, 95] = true := by decide +kernel
theorem kc_Model_foesLine : g_mchk mt g_mk g_cnt md_Model_foesLine = true := by decide +kernel
theorem kk_Model_passed : g_mokB md_Model_passed 0 [1873, 153, 1872, 96] = true := by decide +kernel
theorem kc_Model_passed : g_mchk mt g_mk g_cnt md_Model_passed = true := by decide +kernel
theorem kk_Model_hasBit : g_mokB md_Model_hasBit 1 [1876, 153, 1875] = true := by decide +kernel
theorem kc_Model_hasBit : g_mchk mt g_mk g_cnt md_Model_hasBit = true := by decide +kernel
theorem kk_Model_wantsLine : g_mokB md_Model_wantsLine 0 [1880, 153, 1879, 97] = true := by decide +kernel
theorem kc_Model_wantsLine : g_mchk mt g_mk g_cnt md_Model_wantsLine = true := by decide +kernel
theorem kk_Model_sideOfHouse : g_mokB md_Model_sideOfHouse 0 [1884, 153, 1883, 98] = true := by decide +kernel
theorem kc_Model_sideOfHouse : g_mchk mt g_mk g_cnt md_Model_sideOfHouse = true := by decide +kernel
theorem kk_Model_sideOfHome : g_mokB md_Model_sideOfHome 0 [1888, 153, 1887, 99] = true := by decide +kernel
theorem kc_Model_sideOfHome : g_mchk mt g_mk g_cnt md_Model_sideOfHome = true := by decide +kernel
theorem kk_Model_keepsLine : g_mokB md_Model_keepsLine 0 [1892, 153, 1891, 100] = true := by decide +kernel
theorem kc_Model_keepsLine : g_mchk mt g_mk g_cnt md_Model_keepsLine = true := by decide +kernel
theorem kk_Model_illLine : g_mokB md_Model_illLine 0 [1896, 153, 1895, 101] = true := by decide +kernel
theorem kc_Model_illLine : g_mchk mt g_mk g_cnt md_Model_illLine = true := by decide +kernel
theorem kk_Model_shoeLine : g_mokB md_Model_shoeLine 0 [1900, 153, 1899, 102] = true := by decide +kernel
theorem kc_Model_shoeLine : g_mchk mt g_mk g_cnt md_Model_shoeLine = true := by decide +kernel
theorem kk_Model_coldLine : g_mokB md_Model_coldLine 0 [1904, 153, 1903, 103] = true := by decide +kernel
theorem kc_Model_coldLine : g_mchk mt g_mk g_cnt md_Model_coldLine = true := by decide +kernel
theorem kk_Model_copy : g_mokB md_Model_copy 1 [1907, 153, 1906] = true := by decide +kernel
theorem kc_Model_copy : g_mchk mt g_mk g_cnt md_Model_copy = true := by decide +kernel
theorem kk_Model_manOf : g_mokB md_Model_manOf 0 [1911, 153, 1910, 104] = true := by decide +kernel
theorem kc_Model_manOf : g_mchk mt g_mk g_cnt md_Model_manOf = true := by decide +kernel
theorem kk_Model_fault : g_mokB md_Model_fault 0 [1915, 153, 1913, 1914] = true := by decide +kernel
theorem kc_Model_fault : g_mchk mt g_mk g_cnt md_Model_fault = true := by decide +kernel
theorem kk_Model_where : g_mokB md_Model_where 0 [1919, 153, 1917, 1918] = true := by decide +kernel
theorem kc_Model_where : g_mchk mt g_mk g_cnt md_Model_where = true := by decide +kernel
theorem kk_Model_house : g_mokB md_Model_house 0 [1923, 153, 1921, 1922] = true := by decide +kernel
theorem kc_Model_house : g_mchk mt g_mk g_cnt md_Model_house = true := by decide +kernel
theorem kk_Model_isHouse : g_mokB md_Model_isHouse 0 [1927, 153, 1926, 105] = true := by decide +kernel
theorem kc_Model_isHouse : g_mchk mt g_mk g_cnt md_Model_isHouse = true := by decide +kernel
theorem kk_Model_person : g_mokB md_Model_person 0 [1931, 153, 1929, 1930] = true := by decide +kernel
theorem kc_Model_person : g_mchk mt g_mk g_cnt md_Model_person = true := by decide +kernel
theorem kk_Model_isPerson : g_mokB md_Model_isPerson 0 [1935, 153, 1934, 106] = true := by decide +kernel
theorem kc_Model_isPerson : g_mchk mt g_mk g_cnt md_Model_isPerson = true := by decide +kernel
theorem kk_Model_its : g_mokB md_Model_its 0 [1939, 153, 1938, 107] = true := by decide +kernel
theorem kc_Model_its : g_mchk mt g_mk g_cnt md_Model_its = true := by decide +kernel
theorem kk_Model_houseOf : g_mokB md_Model_houseOf 0 [1943, 153, 1941, 1942] = true := by decide +kernel
theorem kc_Model_houseOf : g_mchk mt g_mk g_cnt md_Model_houseOf = true := by decide +kernel
theorem kk_Model_isBed : g_mokB md_Model_isBed 0 [1947, 153, 1946, 108] = true := by decide +kernel
theorem kc_Model_isBed : g_mchk mt g_mk g_cnt md_Model_isBed = true := by decide +kernel
theorem kk_Model_wants : g_mokB md_Model_wants 0 [1951, 153, 1949, 1950] = true := by decide +kernel
theorem kc_Model_wants : g_mchk mt g_mk g_cnt md_Model_wants = true := by decide +kernel
theorem kk_Model_bed : g_mokB md_Model_bed 0 [1955, 153, 1953, 1954] = true := by decide +kernel
theorem kc_Model_bed : g_mchk mt g_mk g_cnt md_Model_bed = true := by decide +kernel
theorem kk_Model_bedNow : g_mokB md_Model_bedNow 0 [1959, 153, 1958, 109] = true := by decide +kernel
theorem kc_Model_bedNow : g_mchk mt g_mk g_cnt md_Model_bedNow = true := by decide +kernel
theorem kk_Model_who : g_mokB md_Model_who 0 [1963, 153, 1961, 1962] = true := by decide +kernel
theorem kc_Model_who : g_mchk mt g_mk g_cnt md_Model_who = true := by decide +kernel
theorem kk_Model_wrong : g_mokB md_Model_wrong 0 [1967, 153, 1965, 1966] = true := by decide +kernel
theorem kc_Model_wrong : g_mchk mt g_mk g_cnt md_Model_wrong = true := by decide +kernel
theorem kk_Model_layBeds : g_mokB md_Model_layBeds 0 [1971, 153, 1970, 110] = true := by decide +kernel
theorem kc_Model_layBeds : g_mchk mt g_mk g_cnt md_Model_layBeds = true := by decide +kernel
theorem kk_Model_wrongWith : g_mokB md_Model_wrongWith 0 [1975, 153, 1974, 111] = true := by decide +kernel
theorem kc_Model_wrongWith : g_mchk mt g_mk g_cnt md_Model_wrongWith = true := by decide +kernel
theorem kk_Model_houseSide : g_mokB md_Model_houseSide 0 [1979, 153, 1978, 112] = true := by decide +kernel
theorem kc_Model_houseSide : g_mchk mt g_mk g_cnt md_Model_houseSide = true := by decide +kernel
theorem kk_Model_lastIn : g_mokB md_Model_lastIn 0 [1983, 153, 1982, 113] = true := by decide +kernel
theorem kc_Model_lastIn : g_mchk mt g_mk g_cnt md_Model_lastIn = true := by decide +kernel
theorem kk_Model_firstWrong : g_mokB md_Model_firstWrong 0 [1987, 153, 1985, 1986] = true := by decide +kernel
theorem kc_Model_firstWrong : g_mchk mt g_mk g_cnt md_Model_firstWrong = true := by decide +kernel
theorem kk_Model_firstWrongOf : g_mokB md_Model_firstWrongOf 0 [1991, 153, 1990, 114] = true := by decide +kernel
theorem kc_Model_firstWrongOf : g_mchk mt g_mk g_cnt md_Model_firstWrongOf = true := by decide +kernel
theorem kk_Model_wrongIn : g_mokB md_Model_wrongIn 0 [1995, 153, 1993, 1994] = true := by decide +kernel
theorem kc_Model_wrongIn : g_mchk mt g_mk g_cnt md_Model_wrongIn = true := by decide +kernel
