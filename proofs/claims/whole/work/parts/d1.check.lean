theorem kk_Reader_closeLine : g_mokB md_Reader_closeLine 0 [877, 146, 875, 876] = true := by decide +kernel
theorem kc_Reader_closeLine : g_mchk mt g_mk g_cnt md_Reader_closeLine = true := by decide +kernel
theorem kk_Reader_finish : g_mokB md_Reader_finish 0 [881, 146, 879, 880] = true := by decide +kernel
theorem kc_Reader_finish : g_mchk mt g_mk g_cnt md_Reader_finish = true := by decide +kernel
theorem kk_Reader_handOver : g_mokB md_Reader_handOver 0 [889, 146, 887, 888] = true := by decide +kernel
theorem kc_Reader_handOver : g_mchk mt g_mk g_cnt md_Reader_handOver = true := by decide +kernel
theorem kk_Score_init : g_mokB md_Score_init 2 [429, 150, 428] = true := by decide +kernel
theorem kc_Score_init : g_mchk mt g_mk g_cnt md_Score_init = true := by decide +kernel
theorem kk_Score_beatsWith : g_mokB md_Score_beatsWith 0 [1065, 150, 1063, 1064] = true := by decide +kernel
theorem kc_Score_beatsWith : g_mchk mt g_mk g_cnt md_Score_beatsWith = true := by decide +kernel
theorem kk_Score_copyFrom : g_mokB md_Score_copyFrom 0 [1077, 150, 1075, 1076] = true := by decide +kernel
theorem kc_Score_copyFrom : g_mchk mt g_mk g_cnt md_Score_copyFrom = true := by decide +kernel
theorem kk_Score_add : g_mokB md_Score_add 0 [1090, 150, 1088, 1089] = true := by decide +kernel
theorem kc_Score_add : g_mchk mt g_mk g_cnt md_Score_add = true := by decide +kernel
theorem kk_Score_set : g_mokB md_Score_set 0 [1114, 150, 1112, 1113] = true := by decide +kernel
theorem kc_Score_set : g_mchk mt g_mk g_cnt md_Score_set = true := by decide +kernel
theorem kk_State_init : g_mokB md_State_init 2 [354, 147, 353] = true := by decide +kernel
theorem kc_State_init : g_mchk mt g_mk g_cnt md_State_init = true := by decide +kernel
theorem kk_State_begin : g_mokB md_State_begin 0 [893, 147, 891, 892] = true := by decide +kernel
theorem kc_State_begin : g_mchk mt g_mk g_cnt md_State_begin = true := by decide +kernel
theorem kk_State_isIll : g_mokB md_State_isIll 0 [945, 147, 943, 944] = true := by decide +kernel
theorem kc_State_isIll : g_mchk mt g_mk g_cnt md_State_isIll = true := by decide +kernel
theorem kk_State_firstIn : g_mokB md_State_firstIn 0 [970, 147, 968, 969] = true := by decide +kernel
theorem kc_State_firstIn : g_mchk mt g_mk g_cnt md_State_firstIn = true := by decide +kernel
theorem kk_State_wrongAt : g_mokB md_State_wrongAt 0 [978, 147, 976, 977] = true := by decide +kernel
theorem kc_State_wrongAt : g_mchk mt g_mk g_cnt md_State_wrongAt = true := by decide +kernel
theorem kk_State_sleptLately : g_mokB md_State_sleptLately 0 [988, 147, 986, 987] = true := by decide +kernel
theorem kc_State_sleptLately : g_mchk mt g_mk g_cnt md_State_sleptLately = true := by decide +kernel
theorem kk_State_nightsAgo : g_mokB md_State_nightsAgo 0 [992, 147, 990, 991] = true := by decide +kernel
theorem kc_State_nightsAgo : g_mchk mt g_mk g_cnt md_State_nightsAgo = true := by decide +kernel
theorem kk_State_othersIn : g_mokB md_State_othersIn 0 [996, 147, 995, 34] = true := by decide +kernel
theorem kc_State_othersIn : g_mchk mt g_mk g_cnt md_State_othersIn = true := by decide +kernel
theorem kk_State_houseOfSleeper : g_mokB md_State_houseOfSleeper 0 [1000, 147, 998, 999] = true := by decide +kernel
theorem kc_State_houseOfSleeper : g_mchk mt g_mk g_cnt md_State_houseOfSleeper = true := by decide +kernel
theorem kk_State_firstWronged : g_mokB md_State_firstWronged 0 [1013, 147, 1011, 1012] = true := by decide +kernel
theorem kc_State_firstWronged : g_mchk mt g_mk g_cnt md_State_firstWronged = true := by decide +kernel
theorem kk_State_worthOf : g_mokB md_State_worthOf 0 [1030, 147, 1028, 1029] = true := by decide +kernel
theorem kc_State_worthOf : g_mchk mt g_mk g_cnt md_State_worthOf = true := by decide +kernel
theorem kk_State_housesSlept : g_mokB md_State_housesSlept 0 [1144, 147, 1142, 1143] = true := by decide +kernel
theorem kc_State_housesSlept : g_mchk mt g_mk g_cnt md_State_housesSlept = true := by decide +kernel
theorem kk_State_leaksOf : g_mokB md_State_leaksOf 0 [1156, 147, 1154, 1155] = true := by decide +kernel
theorem kc_State_leaksOf : g_mchk mt g_mk g_cnt md_State_leaksOf = true := by decide +kernel
theorem kk_State_isPeace : g_mokB md_State_isPeace 0 [1164, 147, 1162, 1163] = true := by decide +kernel
theorem kc_State_isPeace : g_mchk mt g_mk g_cnt md_State_isPeace = true := by decide +kernel
theorem kk_State_guestsOf : g_mokB md_State_guestsOf 0 [1179, 147, 1177, 1178] = true := by decide +kernel
theorem kc_State_guestsOf : g_mchk mt g_mk g_cnt md_State_guestsOf = true := by decide +kernel
theorem kk_State_metOf : g_mokB md_State_metOf 0 [1187, 147, 1185, 1186] = true := by decide +kernel
theorem kc_State_metOf : g_mchk mt g_mk g_cnt md_State_metOf = true := by decide +kernel
theorem kk_State_fairness : g_mokB md_State_fairness 0 [1196, 147, 1194, 1195] = true := by decide +kernel
theorem kc_State_fairness : g_mchk mt g_mk g_cnt md_State_fairness = true := by decide +kernel
theorem kk_State_bestSwap : g_mokB md_State_bestSwap 0 [1204, 147, 1202, 1203] = true := by decide +kernel
theorem kc_State_bestSwap : g_mchk mt g_mk g_cnt md_State_bestSwap = true := by decide +kernel
theorem kk_State_canChange : g_mokB md_State_canChange 0 [1209, 147, 1208, 49] = true := by decide +kernel
theorem kc_State_canChange : g_mchk mt g_mk g_cnt md_State_canChange = true := by decide +kernel
theorem kk_State_change : g_mokB md_State_change 0 [1213, 147, 1212, 50] = true := by decide +kernel
theorem kc_State_change : g_mchk mt g_mk g_cnt md_State_change = true := by decide +kernel
theorem kk_State_isRight : g_mokB md_State_isRight 0 [1217, 147, 1216, 51] = true := by decide +kernel
theorem kc_State_isRight : g_mchk mt g_mk g_cnt md_State_isRight = true := by decide +kernel
theorem kk_State_copyFrom : g_mokB md_State_copyFrom 0 [1229, 147, 1227, 1228] = true := by decide +kernel
theorem kc_State_copyFrom : g_mchk mt g_mk g_cnt md_State_copyFrom = true := by decide +kernel
theorem kk_State_sleep : g_mokB md_State_sleep 0 [1250, 147, 1248, 1249] = true := by decide +kernel
theorem kc_State_sleep : g_mchk mt g_mk g_cnt md_State_sleep = true := by decide +kernel
theorem kk_State_meet : g_mokB md_State_meet 0 [1254, 147, 1253, 53] = true := by decide +kernel
theorem kc_State_meet : g_mchk mt g_mk g_cnt md_State_meet = true := by decide +kernel
theorem kk_State_tellAll : g_mokB md_State_tellAll 0 [1258, 147, 1257, 54] = true := by decide +kernel
theorem kc_State_tellAll : g_mchk mt g_mk g_cnt md_State_tellAll = true := by decide +kernel
theorem kk_State_tells : g_mokB md_State_tells 0 [1262, 147, 1261, 55] = true := by decide +kernel
theorem kc_State_tells : g_mchk mt g_mk g_cnt md_State_tells = true := by decide +kernel
theorem kk_State_draw : g_mokB md_State_draw 0 [1266, 147, 1265, 56] = true := by decide +kernel
theorem kc_State_draw : g_mchk mt g_mk g_cnt md_State_draw = true := by decide +kernel
theorem kk_Towns_init : g_mokB md_Towns_init 2 [179, 145, 178] = true := by decide +kernel
theorem kc_Towns_init : g_mchk mt g_mk g_cnt md_Towns_init = true := by decide +kernel
theorem kk_Towns_clear : g_mokB md_Towns_clear 0 [640, 145, 638, 639] = true := by decide +kernel
theorem kc_Towns_clear : g_mchk mt g_mk g_cnt md_Towns_clear = true := by decide +kernel
theorem kk_Towns_bedsOn : g_mokB md_Towns_bedsOn 0 [783, 145, 781, 782] = true := by decide +kernel
theorem kc_Towns_bedsOn : g_mchk mt g_mk g_cnt md_Towns_bedsOn = true := by decide +kernel
theorem kk_Towns_addHouse : g_mokB md_Towns_addHouse 0 [787, 145, 785, 786] = true := by decide +kernel
theorem kc_Towns_addHouse : g_mchk mt g_mk g_cnt md_Towns_addHouse = true := by decide +kernel
theorem kk_Towns_peopleOf : g_mokB md_Towns_peopleOf 0 [812, 145, 810, 811] = true := by decide +kernel
theorem kc_Towns_peopleOf : g_mchk mt g_mk g_cnt md_Towns_peopleOf = true := by decide +kernel
theorem kk_Towns_sideOf : g_mokB md_Towns_sideOf 0 [816, 145, 814, 815] = true := by decide +kernel
theorem kc_Towns_sideOf : g_mchk mt g_mk g_cnt md_Towns_sideOf = true := by decide +kernel
theorem kk_Towns_addPerson : g_mokB md_Towns_addPerson 0 [828, 145, 826, 827] = true := by decide +kernel
theorem kc_Towns_addPerson : g_mchk mt g_mk g_cnt md_Towns_addPerson = true := by decide +kernel
theorem kk_Towns_addFoes : g_mokB md_Towns_addFoes 0 [840, 145, 838, 839] = true := by decide +kernel
theorem kc_Towns_addFoes : g_mchk mt g_mk g_cnt md_Towns_addFoes = true := by decide +kernel
theorem kk_Towns_wantsOf : g_mokB md_Towns_wantsOf 0 [848, 145, 846, 847] = true := by decide +kernel
theorem kc_Towns_wantsOf : g_mchk mt g_mk g_cnt md_Towns_wantsOf = true := by decide +kernel
theorem kk_Towns_hasKeeps : g_mokB md_Towns_hasKeeps 0 [861, 145, 859, 860] = true := by decide +kernel
theorem kc_Towns_hasKeeps : g_mchk mt g_mk g_cnt md_Towns_hasKeeps = true := by decide +kernel
theorem kk_Towns_settle : g_mokB md_Towns_settle 0 [885, 145, 883, 884] = true := by decide +kernel
theorem kc_Towns_settle : g_mchk mt g_mk g_cnt md_Towns_settle = true := by decide +kernel
theorem kk_Towns_bedSide : g_mokB md_Towns_bedSide 0 [982, 145, 980, 981] = true := by decide +kernel
theorem kc_Towns_bedSide : g_mchk mt g_mk g_cnt md_Towns_bedSide = true := by decide +kernel
theorem kk_Towns_housesOn : g_mokB md_Towns_housesOn 0 [1168, 145, 1166, 1167] = true := by decide +kernel
theorem kc_Towns_housesOn : g_mchk mt g_mk g_cnt md_Towns_housesOn = true := by decide +kernel
theorem kk_Town_init : g_mokB md_Town_init 2 [171, 144, 170] = true := by decide +kernel
theorem kc_Town_init : g_mchk mt g_mk g_cnt md_Town_init = true := by decide +kernel
theorem kk_Town_feed : g_mokB md_Town_feed 0 [611, 144, 609, 610] = true := by decide +kernel
theorem kc_Town_feed : g_mchk mt g_mk g_cnt md_Town_feed = true := by decide +kernel
theorem kk_Town_append : g_mokB md_Town_append 0 [615, 144, 614, 0] = true := by decide +kernel
theorem kc_Town_append : g_mchk mt g_mk g_cnt md_Town_append = true := by decide +kernel
theorem kk_Town_towns : g_mokB md_Town_towns 0 [619, 144, 617, 618] = true := by decide +kernel
theorem kc_Town_towns : g_mchk mt g_mk g_cnt md_Town_towns = true := by decide +kernel
theorem kk_Town_refuse : g_mokB md_Town_refuse 0 [623, 144, 622, 1] = true := by decide +kernel
theorem kc_Town_refuse : g_mchk mt g_mk g_cnt md_Town_refuse = true := by decide +kernel
theorem kk_Town_changed : g_mokB md_Town_changed 0 [906, 144, 905, 29] = true := by decide +kernel
theorem kc_Town_changed : g_mchk mt g_mk g_cnt md_Town_changed = true := by decide +kernel
theorem kk_Town_answer : g_mokB md_Town_answer 0 [914, 144, 913, 30] = true := by decide +kernel
theorem kc_Town_answer : g_mchk mt g_mk g_cnt md_Town_answer = true := by decide +kernel
theorem kk_Town_fault : g_mokB md_Town_fault 0 [919, 144, 917, 918] = true := by decide +kernel
theorem kc_Town_fault : g_mchk mt g_mk g_cnt md_Town_fault = true := by decide +kernel
theorem kk_Town_where : g_mokB md_Town_where 0 [923, 144, 921, 922] = true := by decide +kernel
theorem kc_Town_where : g_mchk mt g_mk g_cnt md_Town_where = true := by decide +kernel
theorem kk_Town_house : g_mokB md_Town_house 0 [927, 144, 925, 926] = true := by decide +kernel
theorem kc_Town_house : g_mchk mt g_mk g_cnt md_Town_house = true := by decide +kernel
theorem kk_Town_isHouse : g_mokB md_Town_isHouse 0 [931, 144, 930, 31] = true := by decide +kernel
theorem kc_Town_isHouse : g_mchk mt g_mk g_cnt md_Town_isHouse = true := by decide +kernel
theorem kk_Town_person : g_mokB md_Town_person 0 [936, 144, 934, 935] = true := by decide +kernel
theorem kc_Town_person : g_mchk mt g_mk g_cnt md_Town_person = true := by decide +kernel
theorem kk_Town_isPerson : g_mokB md_Town_isPerson 0 [940, 144, 939, 32] = true := by decide +kernel
theorem kc_Town_isPerson : g_mchk mt g_mk g_cnt md_Town_isPerson = true := by decide +kernel
theorem kk_Town_houseOf : g_mokB md_Town_houseOf 0 [949, 144, 947, 948] = true := by decide +kernel
theorem kc_Town_houseOf : g_mchk mt g_mk g_cnt md_Town_houseOf = true := by decide +kernel
theorem kk_Town_isBed : g_mokB md_Town_isBed 0 [953, 144, 952, 33] = true := by decide +kernel
theorem kc_Town_isBed : g_mchk mt g_mk g_cnt md_Town_isBed = true := by decide +kernel
theorem kk_Town_wants : g_mokB md_Town_wants 0 [957, 144, 955, 956] = true := by decide +kernel
theorem kc_Town_wants : g_mchk mt g_mk g_cnt md_Town_wants = true := by decide +kernel
theorem kk_Town_bed : g_mokB md_Town_bed 0 [962, 144, 960, 961] = true := by decide +kernel
theorem kc_Town_bed : g_mchk mt g_mk g_cnt md_Town_bed = true := by decide +kernel
theorem kk_Town_who : g_mokB md_Town_who 0 [966, 144, 964, 965] = true := by decide +kernel
theorem kc_Town_who : g_mchk mt g_mk g_cnt md_Town_who = true := by decide +kernel
theorem kk_Town_wrong : g_mokB md_Town_wrong 0 [974, 144, 972, 973] = true := by decide +kernel
theorem kc_Town_wrong : g_mchk mt g_mk g_cnt md_Town_wrong = true := by decide +kernel
theorem kk_Town_firstWrong : g_mokB md_Town_firstWrong 0 [1005, 144, 1003, 1004] = true := by decide +kernel
theorem kc_Town_firstWrong : g_mchk mt g_mk g_cnt md_Town_firstWrong = true := by decide +kernel
theorem kk_Town_isTold : g_mokB md_Town_isTold 0 [1009, 144, 1008, 35] = true := by decide +kernel
theorem kc_Town_isTold : g_mchk mt g_mk g_cnt md_Town_isTold = true := by decide +kernel
theorem kk_Town_wrongIn : g_mokB md_Town_wrongIn 0 [1018, 144, 1016, 1017] = true := by decide +kernel
theorem kc_Town_wrongIn : g_mchk mt g_mk g_cnt md_Town_wrongIn = true := by decide +kernel
theorem kk_Town_worth : g_mokB md_Town_worth 0 [1022, 144, 1020, 1021] = true := by decide +kernel
theorem kc_Town_worth : g_mchk mt g_mk g_cnt md_Town_worth = true := by decide +kernel
theorem kk_Town_isSide : g_mokB md_Town_isSide 0 [1026, 144, 1025, 36] = true := by decide +kernel
theorem kc_Town_isSide : g_mchk mt g_mk g_cnt md_Town_isSide = true := by decide +kernel
theorem kk_Town_rows : g_mokB md_Town_rows 0 [1035, 144, 1033, 1034] = true := by decide +kernel
theorem kc_Town_rows : g_mchk mt g_mk g_cnt md_Town_rows = true := by decide +kernel
theorem kk_Town_best : g_mokB md_Town_best 0 [1094, 144, 1092, 1093] = true := by decide +kernel
theorem kc_Town_best : g_mchk mt g_mk g_cnt md_Town_best = true := by decide +kernel
theorem kk_Town_bestOf : g_mokB md_Town_bestOf 0 [1098, 144, 1097, 45] = true := by decide +kernel
theorem kc_Town_bestOf : g_mchk mt g_mk g_cnt md_Town_bestOf = true := by decide +kernel
theorem kk_Town_bestChurch : g_mokB md_Town_bestChurch 0 [1123, 144, 1121, 1122] = true := by decide +kernel
theorem kc_Town_bestChurch : g_mchk mt g_mk g_cnt md_Town_bestChurch = true := by decide +kernel
theorem kk_Town_bestWorth : g_mokB md_Town_bestWorth 0 [1127, 144, 1125, 1126] = true := by decide +kernel
theorem kc_Town_bestWorth : g_mchk mt g_mk g_cnt md_Town_bestWorth = true := by decide +kernel
theorem kk_Town_turnsOf : g_mokB md_Town_turnsOf 0 [1131, 144, 1129, 1130] = true := by decide +kernel
theorem kc_Town_turnsOf : g_mchk mt g_mk g_cnt md_Town_turnsOf = true := by decide +kernel
theorem kk_Town_ago : g_mokB md_Town_ago 0 [1135, 144, 1133, 1134] = true := by decide +kernel
theorem kc_Town_ago : g_mchk mt g_mk g_cnt md_Town_ago = true := by decide +kernel
theorem kk_Town_slept : g_mokB md_Town_slept 0 [1140, 144, 1138, 1139] = true := by decide +kernel
theorem kc_Town_slept : g_mchk mt g_mk g_cnt md_Town_slept = true := by decide +kernel
theorem kk_Town_knows : g_mokB md_Town_knows 0 [1148, 144, 1146, 1147] = true := by decide +kernel
theorem kc_Town_knows : g_mchk mt g_mk g_cnt md_Town_knows = true := by decide +kernel
theorem kk_Town_leaked : g_mokB md_Town_leaked 0 [1152, 144, 1150, 1151] = true := by decide +kernel
theorem kc_Town_leaked : g_mchk mt g_mk g_cnt md_Town_leaked = true := by decide +kernel
theorem kk_Town_peace : g_mokB md_Town_peace 0 [1160, 144, 1158, 1159] = true := by decide +kernel
theorem kc_Town_peace : g_mchk mt g_mk g_cnt md_Town_peace = true := by decide +kernel
theorem kk_Town_guests : g_mokB md_Town_guests 0 [1175, 144, 1173, 1174] = true := by decide +kernel
theorem kc_Town_guests : g_mchk mt g_mk g_cnt md_Town_guests = true := by decide +kernel
theorem kk_Town_together : g_mokB md_Town_together 0 [1183, 144, 1181, 1182] = true := by decide +kernel
theorem kc_Town_together : g_mchk mt g_mk g_cnt md_Town_together = true := by decide +kernel
theorem kk_Town_fair : g_mokB md_Town_fair 0 [1192, 144, 1190, 1191] = true := by decide +kernel
theorem kc_Town_fair : g_mchk mt g_mk g_cnt md_Town_fair = true := by decide +kernel
theorem kk_Town_swap : g_mokB md_Town_swap 0 [1200, 144, 1198, 1199] = true := by decide +kernel
theorem kc_Town_swap : g_mchk mt g_mk g_cnt md_Town_swap = true := by decide +kernel
theorem kk_Town_peaceIn : g_mokB md_Town_peaceIn 0 [1221, 144, 1219, 1220] = true := by decide +kernel
theorem kc_Town_peaceIn : g_mchk mt g_mk g_cnt md_Town_peaceIn = true := by decide +kernel
theorem kk_Town_churchIn : g_mokB md_Town_churchIn 0 [1275, 144, 1273, 1274] = true := by decide +kernel
theorem kc_Town_churchIn : g_mchk mt g_mk g_cnt md_Town_churchIn = true := by decide +kernel
theorem kk_Town_knowsIn : g_mokB md_Town_knowsIn 0 [1279, 144, 1277, 1278] = true := by decide +kernel
theorem kc_Town_knowsIn : g_mchk mt g_mk g_cnt md_Town_knowsIn = true := by decide +kernel
