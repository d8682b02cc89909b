/-! what the kernel checks of every method -/
def g_mokB (md : gD) (k : Nat) (ps : List Nat) : Bool :=
  g_has (ps.getD 0 0) (Cond.code md.1 md.2.1 md.2.2.1 md.2.2.2.1) && g_has (ps.getD 1 0) (Cond.initialized md.1.cls) && plainName md.1.cls && decide (md.1.cls ≠ "java/lang/invoke/MethodHandle" ∧ md.1.cls ≠ "java/lang/invoke/VarHandle") && decide (md.2.2.1 ≤ 41) &&
  decide ((parseMethodDescriptor md.1.desc).map (fun d => d.parameters.length) = some (if k = 1 then md.2.2.2.2.1 else md.2.2.2.2.1 - 1)) && (decide (k = 1) || decide (1 ≤ md.2.2.2.2.1)) &&
  (match k with
    | 0 => g_has (ps.getD 2 0) (Cond.instanceMethod md.1) && g_has (ps.getD 3 0) (Cond.selects md.1.cls md.1 md.1)
    | 1 => g_has (ps.getD 2 0) (Cond.static md.1)
    | 2 => g_has (ps.getD 2 0) (Cond.instanceMethod md.1) && decide (md.1.name = "<init>") && decide (md.2.2.2.1 = none)
    | _ => false)
theorem g_mok_of {md : gD} {k : Nat} {ps : List Nat} (h : g_mokB md k ps = true) : g_mok md k := by
  simp only [g_mokB, Bool.and_eq_true, decide_eq_true_eq, Bool.or_eq_true] at h
  obtain ⟨⟨⟨⟨⟨⟨⟨h1, h2⟩, h3⟩, h4⟩, h5⟩, h6⟩, h7⟩, h8⟩ := h
  refine ⟨g_has_mem h1, g_has_mem h2, h3, h4, h5, h6, fun q => h7.resolve_left q, ?_, ?_, ?_⟩
  · rintro rfl
    simp only [Bool.and_eq_true] at h8
    exact ⟨g_has_mem h8.1, g_has_mem h8.2⟩
  · rintro rfl
    exact g_has_mem h8
  · rintro rfl
    simp only [Bool.and_eq_true, decide_eq_true_eq] at h8
    exact ⟨g_has_mem h8.1.1, h8.1.2, h8.2⟩
theorem kk_Bargain_restsOf : g_mokB md_Bargain_restsOf 1 [1366, 162, 1365] = true := by decide +kernel
theorem kc_Bargain_restsOf : g_mchk mt g_mk g_cnt md_Bargain_restsOf = true := by decide +kernel
theorem kk_Bargain_told : g_mokB md_Bargain_told 1 [1369, 162, 1368] = true := by decide +kernel
theorem kc_Bargain_told : g_mchk mt g_mk g_cnt md_Bargain_told = true := by decide +kernel
theorem kk_Bargain_holdsBy : g_mokB md_Bargain_holdsBy 1 [1376, 162, 1375] = true := by decide +kernel
theorem kc_Bargain_holdsBy : g_mchk mt g_mk g_cnt md_Bargain_holdsBy = true := by decide +kernel
theorem kk_Bargain_commonDivisor : g_mokB md_Bargain_commonDivisor 1 [1379, 162, 1378] = true := by decide +kernel
theorem kc_Bargain_commonDivisor : g_mchk mt g_mk g_cnt md_Bargain_commonDivisor = true := by decide +kernel
theorem kk_Bargain_isRule : g_mokB md_Bargain_isRule 1 [1387, 162, 1386] = true := by decide +kernel
theorem kc_Bargain_isRule : g_mchk mt g_mk g_cnt md_Bargain_isRule = true := by decide +kernel
theorem kk_Bargain_isLength : g_mokB md_Bargain_isLength 1 [1390, 162, 1389] = true := by decide +kernel
theorem kc_Bargain_isLength : g_mchk mt g_mk g_cnt md_Bargain_isLength = true := by decide +kernel
theorem kk_Bargain_played : g_mokB md_Bargain_played 1 [1393, 162, 1392] = true := by decide +kernel
theorem kc_Bargain_played : g_mchk mt g_mk g_cnt md_Bargain_played = true := by decide +kernel
theorem kk_Bargain_keepsBy : g_mokB md_Bargain_keepsBy 1 [1396, 162, 1395] = true := by decide +kernel
theorem kc_Bargain_keepsBy : g_mchk mt g_mk g_cnt md_Bargain_keepsBy = true := by decide +kernel
theorem kk_Bargain_mostByRule : g_mokB md_Bargain_mostByRule 1 [1403, 162, 1402] = true := by decide +kernel
theorem kc_Bargain_mostByRule : g_mchk mt g_mk g_cnt md_Bargain_mostByRule = true := by decide +kernel
theorem kk_Bridge_init : g_mokB md_Bridge_init 2 [538, 152, 537] = true := by decide +kernel
theorem kc_Bridge_init : g_mchk mt g_mk g_cnt md_Bridge_init = true := by decide +kernel
theorem kk_Bridge_leastMinutes : g_mokB md_Bridge_leastMinutes 0 [1301, 152, 1299, 1300] = true := by decide +kernel
theorem kc_Bridge_leastMinutes : g_mchk mt g_mk g_cnt md_Bridge_leastMinutes = true := by decide +kernel
theorem kk_Bridge_lineUp : g_mokB md_Bridge_lineUp 0 [1305, 152, 1304, 58] = true := by decide +kernel
theorem kc_Bridge_lineUp : g_mchk mt g_mk g_cnt md_Bridge_lineUp = true := by decide +kernel
theorem kk_Bridge_goesAhead : g_mokB md_Bridge_goesAhead 1 [1308, 152, 1307] = true := by decide +kernel
theorem kc_Bridge_goesAhead : g_mchk mt g_mk g_cnt md_Bridge_goesAhead = true := by decide +kernel
theorem kk_Bridge_lanesOf : g_mokB md_Bridge_lanesOf 1 [1312, 152, 1311] = true := by decide +kernel
theorem kc_Bridge_lanesOf : g_mchk mt g_mk g_cnt md_Bridge_lanesOf = true := by decide +kernel
theorem kk_Bridge_spread : g_mokB md_Bridge_spread 0 [1318, 152, 1317, 59] = true := by decide +kernel
theorem kc_Bridge_spread : g_mchk mt g_mk g_cnt md_Bridge_spread = true := by decide +kernel
theorem kk_Bridge_longest : g_mokB md_Bridge_longest 0 [1322, 152, 1321, 60] = true := by decide +kernel
theorem kc_Bridge_longest : g_mchk mt g_mk g_cnt md_Bridge_longest = true := by decide +kernel
theorem kk_Bridge_laneMinutes : g_mokB md_Bridge_laneMinutes 0 [1326, 152, 1325, 61] = true := by decide +kernel
theorem kc_Bridge_laneMinutes : g_mchk mt g_mk g_cnt md_Bridge_laneMinutes = true := by decide +kernel
theorem kk_Bridge_isLikeEarlier : g_mokB md_Bridge_isLikeEarlier 0 [1330, 152, 1329, 62] = true := by decide +kernel
theorem kc_Bridge_isLikeEarlier : g_mchk mt g_mk g_cnt md_Bridge_isLikeEarlier = true := by decide +kernel
theorem kk_Bridge_walkBy : g_mokB md_Bridge_walkBy 0 [1343, 152, 1341, 1342] = true := by decide +kernel
theorem kc_Bridge_walkBy : g_mchk mt g_mk g_cnt md_Bridge_walkBy = true := by decide +kernel
theorem kk_Bridge_stepOn : g_mokB md_Bridge_stepOn 0 [1347, 152, 1346, 64] = true := by decide +kernel
theorem kc_Bridge_stepOn : g_mchk mt g_mk g_cnt md_Bridge_stepOn = true := by decide +kernel
theorem kk_Bridge_soonestFree : g_mokB md_Bridge_soonestFree 0 [1351, 152, 1350, 65] = true := by decide +kernel
theorem kc_Bridge_soonestFree : g_mchk mt g_mk g_cnt md_Bridge_soonestFree = true := by decide +kernel
theorem kk_Finder_init : g_mokB md_Finder_init 2 [423, 149, 422] = true := by decide +kernel
theorem kc_Finder_init : g_mchk mt g_mk g_cnt md_Finder_init = true := by decide +kernel
theorem kk_Finder_forget : g_mokB md_Finder_forget 0 [902, 149, 900, 901] = true := by decide +kernel
theorem kc_Finder_forget : g_mchk mt g_mk g_cnt md_Finder_forget = true := by decide +kernel
theorem kk_Finder_countRows : g_mokB md_Finder_countRows 0 [1039, 149, 1037, 1038] = true := by decide +kernel
theorem kc_Finder_countRows : g_mchk mt g_mk g_cnt md_Finder_countRows = true := by decide +kernel
theorem kk_Finder_gather : g_mokB md_Finder_gather 0 [1043, 149, 1042, 37] = true := by decide +kernel
theorem kc_Finder_gather : g_mchk mt g_mk g_cnt md_Finder_gather = true := by decide +kernel
theorem kk_Finder_openRows : g_mokB md_Finder_openRows 0 [1049, 149, 1048, 38] = true := by decide +kernel
theorem kc_Finder_openRows : g_mchk mt g_mk g_cnt md_Finder_openRows = true := by decide +kernel
theorem kk_Finder_countAll : g_mokB md_Finder_countAll 0 [1056, 149, 1055, 39] = true := by decide +kernel
theorem kc_Finder_countAll : g_mchk mt g_mk g_cnt md_Finder_countAll = true := by decide +kernel
theorem kk_Finder_fill : g_mokB md_Finder_fill 0 [1060, 149, 1059, 40] = true := by decide +kernel
theorem kc_Finder_fill : g_mchk mt g_mk g_cnt md_Finder_fill = true := by decide +kernel
theorem kk_Finder_take : g_mokB md_Finder_take 0 [1069, 149, 1068, 41] = true := by decide +kernel
theorem kc_Finder_take : g_mchk mt g_mk g_cnt md_Finder_take = true := by decide +kernel
theorem kk_Finder_childrenMinded : g_mokB md_Finder_childrenMinded 0 [1073, 149, 1072, 42] = true := by decide +kernel
theorem kc_Finder_childrenMinded : g_mchk mt g_mk g_cnt md_Finder_childrenMinded = true := by decide +kernel
theorem kk_Finder_fillBed : g_mokB md_Finder_fillBed 0 [1081, 149, 1080, 43] = true := by decide +kernel
theorem kc_Finder_fillBed : g_mchk mt g_mk g_cnt md_Finder_fillBed = true := by decide +kernel
theorem kk_Finder_isLeftAlone : g_mokB md_Finder_isLeftAlone 0 [1085, 149, 1084, 44] = true := by decide +kernel
theorem kc_Finder_isLeftAlone : g_mchk mt g_mk g_cnt md_Finder_isLeftAlone = true := by decide +kernel
theorem kk_Finder_seekBest : g_mokB md_Finder_seekBest 0 [1102, 149, 1100, 1101] = true := by decide +kernel
theorem kc_Finder_seekBest : g_mchk mt g_mk g_cnt md_Finder_seekBest = true := by decide +kernel
theorem kk_Finder_shutOutAlone : g_mokB md_Finder_shutOutAlone 0 [1106, 149, 1105, 46] = true := by decide +kernel
theorem kc_Finder_shutOutAlone : g_mchk mt g_mk g_cnt md_Finder_shutOutAlone = true := by decide +kernel
theorem kk_Finder_addUpRest : g_mokB md_Finder_addUpRest 0 [1110, 149, 1109, 47] = true := by decide +kernel
theorem kc_Finder_addUpRest : g_mchk mt g_mk g_cnt md_Finder_addUpRest = true := by decide +kernel
theorem kk_Finder_mostWanted : g_mokB md_Finder_mostWanted 0 [1118, 149, 1117, 48] = true := by decide +kernel
theorem kc_Finder_mostWanted : g_mchk mt g_mk g_cnt md_Finder_mostWanted = true := by decide +kernel
theorem kk_Finder_bestNight : g_mokB md_Finder_bestNight 0 [1240, 149, 1238, 1239] = true := by decide +kernel
theorem kc_Finder_bestNight : g_mchk mt g_mk g_cnt md_Finder_bestNight = true := by decide +kernel
theorem kk_Finder_layRow : g_mokB md_Finder_layRow 0 [1246, 149, 1244, 1245] = true := by decide +kernel
theorem kc_Finder_layRow : g_mchk mt g_mk g_cnt md_Finder_layRow = true := by decide +kernel
theorem kk_Finder_countFits : g_mokB md_Finder_countFits 0 [1416, 149, 1414, 1415] = true := by decide +kernel
theorem kc_Finder_countFits : g_mchk mt g_mk g_cnt md_Finder_countFits = true := by decide +kernel
theorem kk_Finder_openFits : g_mokB md_Finder_openFits 0 [1420, 149, 1419, 68] = true := by decide +kernel
theorem kc_Finder_openFits : g_mchk mt g_mk g_cnt md_Finder_openFits = true := by decide +kernel
theorem kk_Finder_housesInSome : g_mokB md_Finder_housesInSome 0 [1428, 149, 1426, 1427] = true := by decide +kernel
theorem kc_Finder_housesInSome : g_mchk mt g_mk g_cnt md_Finder_housesInSome = true := by decide +kernel
theorem kk_Finder_foundWith : g_mokB md_Finder_foundWith 0 [1432, 149, 1430, 1431] = true := by decide +kernel
theorem kc_Finder_foundWith : g_mchk mt g_mk g_cnt md_Finder_foundWith = true := by decide +kernel
theorem kk_Finder_houseInAll : g_mokB md_Finder_houseInAll 0 [1440, 149, 1438, 1439] = true := by decide +kernel
theorem kc_Finder_houseInAll : g_mchk mt g_mk g_cnt md_Finder_houseInAll = true := by decide +kernel
theorem kk_Finder_bedToAsk : g_mokB md_Finder_bedToAsk 0 [1458, 149, 1456, 1457] = true := by decide +kernel
theorem kc_Finder_bedToAsk : g_mchk mt g_mk g_cnt md_Finder_bedToAsk = true := by decide +kernel
theorem kk_Finder_foundWithAnybody : g_mokB md_Finder_foundWithAnybody 0 [1462, 149, 1461, 70] = true := by decide +kernel
theorem kc_Finder_foundWithAnybody : g_mchk mt g_mk g_cnt md_Finder_foundWithAnybody = true := by decide +kernel
theorem kk_Forecast_init : g_mokB md_Forecast_init 2 [507, 151, 506] = true := by decide +kernel
theorem kc_Forecast_init : g_mchk mt g_mk g_cnt md_Forecast_init = true := by decide +kernel
theorem kk_Forecast_forget : g_mokB md_Forecast_forget 0 [910, 151, 908, 909] = true := by decide +kernel
theorem kc_Forecast_forget : g_mchk mt g_mk g_cnt md_Forecast_forget = true := by decide +kernel
theorem kk_Forecast_reach : g_mokB md_Forecast_reach 0 [1225, 151, 1223, 1224] = true := by decide +kernel
theorem kc_Forecast_reach : g_mchk mt g_mk g_cnt md_Forecast_reach = true := by decide +kernel
theorem kk_Forecast_note : g_mokB md_Forecast_note 0 [1234, 151, 1233, 52] = true := by decide +kernel
theorem kc_Forecast_note : g_mchk mt g_mk g_cnt md_Forecast_note = true := by decide +kernel
theorem kk_Forecast_inChurch : g_mokB md_Forecast_inChurch 0 [1271, 151, 1270, 57] = true := by decide +kernel
theorem kc_Forecast_inChurch : g_mchk mt g_mk g_cnt md_Forecast_inChurch = true := by decide +kernel
theorem kk_Forecast_knownBy : g_mokB md_Forecast_knownBy 0 [1283, 151, 1281, 1282] = true := by decide +kernel
theorem kc_Forecast_knownBy : g_mchk mt g_mk g_cnt md_Forecast_knownBy = true := by decide +kernel
theorem kk_Forecast_hasLeaked : g_mokB md_Forecast_hasLeaked 0 [1291, 151, 1289, 1290] = true := by decide +kernel
theorem kc_Forecast_hasLeaked : g_mchk mt g_mk g_cnt md_Forecast_hasLeaked = true := by decide +kernel
theorem kk_Past_init : g_mokB md_Past_init 2 [395, 148, 394] = true := by decide +kernel
theorem kc_Past_init : g_mchk mt g_mk g_cnt md_Past_init = true := by decide +kernel
theorem kk_Past_forgetAll : g_mokB md_Past_forgetAll 0 [898, 148, 896, 897] = true := by decide +kernel
theorem kc_Past_forgetAll : g_mchk mt g_mk g_cnt md_Past_forgetAll = true := by decide +kernel
theorem kk_Past_keep : g_mokB md_Past_keep 0 [1474, 148, 1472, 1473] = true := by decide +kernel
theorem kc_Past_keep : g_mchk mt g_mk g_cnt md_Past_keep = true := by decide +kernel
theorem kk_Past_restore : g_mokB md_Past_restore 0 [1508, 148, 1506, 1507] = true := by decide +kernel
theorem kc_Past_restore : g_mchk mt g_mk g_cnt md_Past_restore = true := by decide +kernel
theorem kk_Past_addImage : g_mokB md_Past_addImage 0 [1516, 148, 1514, 1515] = true := by decide +kernel
theorem kc_Past_addImage : g_mchk mt g_mk g_cnt md_Past_addImage = true := by decide +kernel
theorem kk_Past_goBack : g_mokB md_Past_goBack 0 [1524, 148, 1522, 1523] = true := by decide +kernel
theorem kc_Past_goBack : g_mchk mt g_mk g_cnt md_Past_goBack = true := by decide +kernel
theorem kk_Reader_init : g_mokB md_Reader_init 2 [300, 146, 299] = true := by decide +kernel
theorem kc_Reader_init : g_mchk mt g_mk g_cnt md_Reader_init = true := by decide +kernel
theorem kk_Reader_begin : g_mokB md_Reader_begin 0 [627, 146, 625, 626] = true := by decide +kernel
theorem kc_Reader_begin : g_mchk mt g_mk g_cnt md_Reader_begin = true := by decide +kernel
theorem kk_Reader_goesOn : g_mokB md_Reader_goesOn 0 [647, 146, 645, 646] = true := by decide +kernel
theorem kc_Reader_goesOn : g_mchk mt g_mk g_cnt md_Reader_goesOn = true := by decide +kernel
theorem kk_Reader_openLine : g_mokB md_Reader_openLine 0 [651, 146, 649, 650] = true := by decide +kernel
theorem kc_Reader_openLine : g_mchk mt g_mk g_cnt md_Reader_openLine = true := by decide +kernel
theorem kk_Reader_next : g_mokB md_Reader_next 0 [655, 146, 654, 2] = true := by decide +kernel
theorem kc_Reader_next : g_mchk mt g_mk g_cnt md_Reader_next = true := by decide +kernel
theorem kk_Reader_readRun : g_mokB md_Reader_readRun 0 [659, 146, 658, 3] = true := by decide +kernel
theorem kc_Reader_readRun : g_mchk mt g_mk g_cnt md_Reader_readRun = true := by decide +kernel
theorem kk_Reader_lineSort : g_mokB md_Reader_lineSort 0 [663, 146, 662, 4] = true := by decide +kernel
theorem kc_Reader_lineSort : g_mchk mt g_mk g_cnt md_Reader_lineSort = true := by decide +kernel
theorem kk_Reader_says : g_mokB md_Reader_says 0 [668, 146, 667, 5] = true := by decide +kernel
theorem kc_Reader_says : g_mchk mt g_mk g_cnt md_Reader_says = true := by decide +kernel
theorem kk_Reader_lineFault : g_mokB md_Reader_lineFault 0 [728, 146, 727, 6] = true := by decide +kernel
theorem kc_Reader_lineFault : g_mchk mt g_mk g_cnt md_Reader_lineFault = true := by decide +kernel
theorem kk_Reader_isFull : g_mokB md_Reader_isFull 0 [732, 146, 731, 7] = true := by decide +kernel
theorem kc_Reader_isFull : g_mchk mt g_mk g_cnt md_Reader_isFull = true := by decide +kernel
theorem kk_Reader_fail : g_mokB md_Reader_fail 0 [736, 146, 735, 8] = true := by decide +kernel
theorem kc_Reader_fail : g_mchk mt g_mk g_cnt md_Reader_fail = true := by decide +kernel
theorem kk_Reader_readLine : g_mokB md_Reader_readLine 0 [740, 146, 738, 739] = true := by decide +kernel
theorem kc_Reader_readLine : g_mchk mt g_mk g_cnt md_Reader_readLine = true := by decide +kernel
theorem kk_Reader_readTowns : g_mokB md_Reader_readTowns 0 [744, 146, 743, 9] = true := by decide +kernel
theorem kc_Reader_readTowns : g_mchk mt g_mk g_cnt md_Reader_readTowns = true := by decide +kernel
theorem kk_Reader_namedWhole : g_mokB md_Reader_namedWhole 0 [749, 146, 748, 10] = true := by decide +kernel
theorem kc_Reader_namedWhole : g_mchk mt g_mk g_cnt md_Reader_namedWhole = true := by decide +kernel
theorem kk_Reader_keyword : g_mokB md_Reader_keyword 0 [753, 146, 752, 11] = true := by decide +kernel
theorem kc_Reader_keyword : g_mchk mt g_mk g_cnt md_Reader_keyword = true := by decide +kernel
theorem kk_Reader_whole : g_mokB md_Reader_whole 0 [757, 146, 756, 12] = true := by decide +kernel
theorem kc_Reader_whole : g_mchk mt g_mk g_cnt md_Reader_whole = true := by decide +kernel
theorem kk_Reader_readHouse : g_mokB md_Reader_readHouse 0 [764, 146, 763, 13] = true := by decide +kernel
theorem kc_Reader_readHouse : g_mchk mt g_mk g_cnt md_Reader_readHouse = true := by decide +kernel
theorem kk_Reader_newName : g_mokB md_Reader_newName 0 [768, 146, 767, 14] = true := by decide +kernel
theorem kc_Reader_newName : g_mchk mt g_mk g_cnt md_Reader_newName = true := by decide +kernel
theorem kk_Reader_readName : g_mokB md_Reader_readName 0 [772, 146, 771, 15] = true := by decide +kernel
theorem kc_Reader_readName : g_mchk mt g_mk g_cnt md_Reader_readName = true := by decide +kernel
theorem kk_Reader_placeIn : g_mokB md_Reader_placeIn 0 [776, 146, 775, 16] = true := by decide +kernel
theorem kc_Reader_placeIn : g_mchk mt g_mk g_cnt md_Reader_placeIn = true := by decide +kernel
theorem kk_Reader_readPerson : g_mokB md_Reader_readPerson 0 [791, 146, 790, 17] = true := by decide +kernel
theorem kc_Reader_readPerson : g_mchk mt g_mk g_cnt md_Reader_readPerson = true := by decide +kernel
theorem kk_Reader_kindSaid : g_mokB md_Reader_kindSaid 0 [795, 146, 794, 18] = true := by decide +kernel
theorem kc_Reader_kindSaid : g_mchk mt g_mk g_cnt md_Reader_kindSaid = true := by decide +kernel
theorem kk_Reader_toldHouse : g_mokB md_Reader_toldHouse 0 [804, 146, 803, 19] = true := by decide +kernel
theorem kc_Reader_toldHouse : g_mchk mt g_mk g_cnt md_Reader_toldHouse = true := by decide +kernel
theorem kk_Reader_known : g_mokB md_Reader_known 0 [808, 146, 807, 20] = true := by decide +kernel
theorem kc_Reader_known : g_mchk mt g_mk g_cnt md_Reader_known = true := by decide +kernel
theorem kk_Reader_readFoes : g_mokB md_Reader_readFoes 0 [832, 146, 831, 21] = true := by decide +kernel
theorem kc_Reader_readFoes : g_mchk mt g_mk g_cnt md_Reader_readFoes = true := by decide +kernel
theorem kk_Reader_toldPerson : g_mokB md_Reader_toldPerson 0 [836, 146, 835, 22] = true := by decide +kernel
theorem kc_Reader_toldPerson : g_mchk mt g_mk g_cnt md_Reader_toldPerson = true := by decide +kernel
theorem kk_Reader_readWants : g_mokB md_Reader_readWants 0 [844, 146, 843, 23] = true := by decide +kernel
theorem kc_Reader_readWants : g_mchk mt g_mk g_cnt md_Reader_readWants = true := by decide +kernel
theorem kk_Reader_refuseOwnSide : g_mokB md_Reader_refuseOwnSide 0 [852, 146, 851, 24] = true := by decide +kernel
theorem kc_Reader_refuseOwnSide : g_mchk mt g_mk g_cnt md_Reader_refuseOwnSide = true := by decide +kernel
theorem kk_Reader_readKeeps : g_mokB md_Reader_readKeeps 0 [857, 146, 856, 25] = true := by decide +kernel
theorem kc_Reader_readKeeps : g_mchk mt g_mk g_cnt md_Reader_readKeeps = true := by decide +kernel
theorem kk_Reader_readIll : g_mokB md_Reader_readIll 0 [865, 146, 864, 26] = true := by decide +kernel
theorem kc_Reader_readIll : g_mchk mt g_mk g_cnt md_Reader_readIll = true := by decide +kernel
theorem kk_Reader_readShoe : g_mokB md_Reader_readShoe 0 [869, 146, 868, 27] = true := by decide +kernel
theorem kc_Reader_readShoe : g_mchk mt g_mk g_cnt md_Reader_readShoe = true := by decide +kernel
theorem kk_Reader_readCold : g_mokB md_Reader_readCold 0 [873, 146, 872, 28] = true := by decide +kernel
theorem kc_Reader_readCold : g_mchk mt g_mk g_cnt md_Reader_readCold = true := by decide +kernel
