/-! what the kernel checks of each case of the law -/
theorem lk_feed : lwB5 276 19 23 1478 = true := by decide +kernel
theorem lm_feed : lwM 5 139 211 = true := by decide +kernel
theorem ll_feed : Cond.methodLink RL 19 (mt 139).1 ∈ gt ∧ Cond.methodLink RL 23 (mt 211).1 ∈ gt := by decide +kernel
theorem lk_towns : lwB1 349 24 27 1453 = true := by decide +kernel
theorem lm_towns : lwM 1 141 212 = true := by decide +kernel
theorem ll_towns : Cond.methodLink RL 24 (mt 141).1 ∈ gt ∧ Cond.methodLink RL 27 (mt 212).1 ∈ gt := by decide +kernel
theorem lk_fault : lwB0 374 28 32 1440 = true := by decide +kernel
theorem lm_fault : lwM 0 145 249 = true := by decide +kernel
theorem ll_fault : Cond.methodLink RL 28 (mt 145).1 ∈ gt ∧ Cond.methodLink RL 32 (mt 249).1 ∈ gt := by decide +kernel
theorem lk_where : lwB0 387 33 36 1427 = true := by decide +kernel
theorem lm_where : lwM 0 146 250 = true := by decide +kernel
theorem ll_where : Cond.methodLink RL 33 (mt 146).1 ∈ gt ∧ Cond.methodLink RL 36 (mt 250).1 ∈ gt := by decide +kernel
theorem lk_house : lwB2 400 37 41 1390 = true := by decide +kernel
theorem lm_house : lwM 2 147 251 = true := by decide +kernel
theorem ll_house : Cond.methodLink RL 37 (mt 147).1 ∈ gt ∧ Cond.methodLink RL 41 (mt 251).1 ∈ gt := by decide +kernel
theorem lk_person : lwB2 437 42 45 1353 = true := by decide +kernel
theorem lm_person : lwM 2 149 253 = true := by decide +kernel
theorem ll_person : Cond.methodLink RL 42 (mt 149).1 ∈ gt ∧ Cond.methodLink RL 45 (mt 253).1 ∈ gt := by decide +kernel
theorem lk_houseOf : lwB1 474 46 49 1328 = true := by decide +kernel
theorem lm_houseOf : lwM 1 151 256 = true := by decide +kernel
theorem ll_houseOf : Cond.methodLink RL 46 (mt 151).1 ∈ gt ∧ Cond.methodLink RL 49 (mt 256).1 ∈ gt := by decide +kernel
theorem lk_wants : lwB2 499 50 53 1291 = true := by decide +kernel
theorem lm_wants : lwM 2 153 258 = true := by decide +kernel
theorem ll_wants : Cond.methodLink RL 50 (mt 153).1 ∈ gt ∧ Cond.methodLink RL 53 (mt 258).1 ∈ gt := by decide +kernel
theorem lk_bed : lwB1 536 54 57 1266 = true := by decide +kernel
theorem lm_bed : lwM 1 154 259 = true := by decide +kernel
theorem ll_bed : Cond.methodLink RL 54 (mt 154).1 ∈ gt ∧ Cond.methodLink RL 57 (mt 259).1 ∈ gt := by decide +kernel
theorem lk_who : lwB1 561 58 61 1241 = true := by decide +kernel
theorem lm_who : lwM 1 155 261 = true := by decide +kernel
theorem ll_who : Cond.methodLink RL 58 (mt 155).1 ∈ gt ∧ Cond.methodLink RL 61 (mt 261).1 ∈ gt := by decide +kernel
theorem lk_wrong : lwB1 586 62 65 1216 = true := by decide +kernel
theorem lm_wrong : lwM 1 156 262 = true := by decide +kernel
theorem ll_wrong : Cond.methodLink RL 62 (mt 156).1 ∈ gt ∧ Cond.methodLink RL 65 (mt 262).1 ∈ gt := by decide +kernel
theorem lk_firstWrong : lwB0 611 66 69 1203 = true := by decide +kernel
theorem lm_firstWrong : lwM 0 157 267 = true := by decide +kernel
theorem ll_firstWrong : Cond.methodLink RL 66 (mt 157).1 ∈ gt ∧ Cond.methodLink RL 69 (mt 267).1 ∈ gt := by decide +kernel
theorem lk_wrongIn : lwB2 624 70 73 1166 = true := by decide +kernel
theorem lm_wrongIn : lwM 2 159 269 = true := by decide +kernel
theorem ll_wrongIn : Cond.methodLink RL 70 (mt 159).1 ∈ gt ∧ Cond.methodLink RL 73 (mt 269).1 ∈ gt := by decide +kernel
theorem lk_worth : lwB1 661 74 77 1141 = true := by decide +kernel
theorem lm_worth : lwM 1 160 270 = true := by decide +kernel
theorem ll_worth : Cond.methodLink RL 74 (mt 160).1 ∈ gt ∧ Cond.methodLink RL 77 (mt 270).1 ∈ gt := by decide +kernel
theorem lk_rows : lwB1 686 78 81 1116 = true := by decide +kernel
theorem lm_rows : lwM 1 162 273 = true := by decide +kernel
theorem ll_rows : Cond.methodLink RL 78 (mt 162).1 ∈ gt ∧ Cond.methodLink RL 81 (mt 273).1 ∈ gt := by decide +kernel
theorem lk_best : lwB1 711 82 85 1091 = true := by decide +kernel
theorem lm_best : lwM 1 163 279 = true := by decide +kernel
theorem ll_best : Cond.methodLink RL 82 (mt 163).1 ∈ gt ∧ Cond.methodLink RL 85 (mt 279).1 ∈ gt := by decide +kernel
theorem lk_bestChurch : lwB1 736 86 89 1066 = true := by decide +kernel
theorem lm_bestChurch : lwM 1 165 280 = true := by decide +kernel
theorem ll_bestChurch : Cond.methodLink RL 86 (mt 165).1 ∈ gt ∧ Cond.methodLink RL 89 (mt 280).1 ∈ gt := by decide +kernel
theorem lk_bestWorth : lwB1 761 90 93 1041 = true := by decide +kernel
theorem lm_bestWorth : lwM 1 166 281 = true := by decide +kernel
theorem ll_bestWorth : Cond.methodLink RL 90 (mt 166).1 ∈ gt ∧ Cond.methodLink RL 93 (mt 281).1 ∈ gt := by decide +kernel
theorem lk_turnsOf : lwB1 786 94 97 1016 = true := by decide +kernel
theorem lm_turnsOf : lwM 1 167 284 = true := by decide +kernel
theorem ll_turnsOf : Cond.methodLink RL 94 (mt 167).1 ∈ gt ∧ Cond.methodLink RL 97 (mt 284).1 ∈ gt := by decide +kernel
theorem lk_ago : lwB2 811 98 101 979 = true := by decide +kernel
theorem lm_ago : lwM 2 168 285 = true := by decide +kernel
theorem ll_ago : Cond.methodLink RL 98 (mt 168).1 ∈ gt ∧ Cond.methodLink RL 101 (mt 285).1 ∈ gt := by decide +kernel
theorem lk_slept : lwB1 848 102 105 954 = true := by decide +kernel
theorem lm_slept : lwM 1 169 286 = true := by decide +kernel
theorem ll_slept : Cond.methodLink RL 102 (mt 169).1 ∈ gt ∧ Cond.methodLink RL 105 (mt 286).1 ∈ gt := by decide +kernel
theorem lk_knows : lwB1 873 106 109 929 = true := by decide +kernel
theorem lm_knows : lwM 1 170 288 = true := by decide +kernel
theorem ll_knows : Cond.methodLink RL 106 (mt 170).1 ∈ gt ∧ Cond.methodLink RL 109 (mt 288).1 ∈ gt := by decide +kernel
theorem lk_leaked : lwB1 898 110 113 904 = true := by decide +kernel
theorem lm_leaked : lwM 1 171 289 = true := by decide +kernel
theorem ll_leaked : Cond.methodLink RL 110 (mt 171).1 ∈ gt ∧ Cond.methodLink RL 113 (mt 289).1 ∈ gt := by decide +kernel
theorem lk_peace : lwB0 923 114 117 891 = true := by decide +kernel
theorem lm_peace : lwM 0 172 294 = true := by decide +kernel
theorem ll_peace : Cond.methodLink RL 114 (mt 172).1 ∈ gt ∧ Cond.methodLink RL 117 (mt 294).1 ∈ gt := by decide +kernel
theorem lk_guests : lwB1 936 118 121 866 = true := by decide +kernel
theorem lm_guests : lwM 1 173 291 = true := by decide +kernel
theorem ll_guests : Cond.methodLink RL 118 (mt 173).1 ∈ gt ∧ Cond.methodLink RL 121 (mt 291).1 ∈ gt := by decide +kernel
theorem lk_together : lwB2 961 122 125 829 = true := by decide +kernel
theorem lm_together : lwM 2 174 292 = true := by decide +kernel
theorem ll_together : Cond.methodLink RL 122 (mt 174).1 ∈ gt ∧ Cond.methodLink RL 125 (mt 292).1 ∈ gt := by decide +kernel
