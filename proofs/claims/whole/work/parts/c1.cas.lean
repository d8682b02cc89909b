/-! the same, the other half -/
theorem lk_fair : lwB1 998 126 129 804 = true := by decide +kernel
theorem lm_fair : lwM 1 175 293 = true := by decide +kernel
theorem ll_fair : Cond.methodLink RL 126 (mt 175).1 ∈ gt ∧ Cond.methodLink RL 129 (mt 293).1 ∈ gt := by decide +kernel
theorem lk_swap : lwB1 1023 130 133 779 = true := by decide +kernel
theorem lm_swap : lwM 1 176 282 = true := by decide +kernel
theorem ll_swap : Cond.methodLink RL 130 (mt 176).1 ∈ gt ∧ Cond.methodLink RL 133 (mt 282).1 ∈ gt := by decide +kernel
theorem lk_peaceIn : lwB0 1048 134 137 766 = true := by decide +kernel
theorem lm_peaceIn : lwM 0 177 297 = true := by decide +kernel
theorem ll_peaceIn : Cond.methodLink RL 134 (mt 177).1 ∈ gt ∧ Cond.methodLink RL 137 (mt 297).1 ∈ gt := by decide +kernel
theorem lk_churchIn : lwB1 1061 138 141 741 = true := by decide +kernel
theorem lm_churchIn : lwM 1 178 304 = true := by decide +kernel
theorem ll_churchIn : Cond.methodLink RL 138 (mt 178).1 ∈ gt ∧ Cond.methodLink RL 141 (mt 304).1 ∈ gt := by decide +kernel
theorem lk_knowsIn : lwB2 1086 142 145 704 = true := by decide +kernel
theorem lm_knowsIn : lwM 2 179 305 = true := by decide +kernel
theorem ll_knowsIn : Cond.methodLink RL 142 (mt 179).1 ∈ gt ∧ Cond.methodLink RL 145 (mt 305).1 ∈ gt := by decide +kernel
theorem lk_leaksIn : lwB1 1123 146 149 679 = true := by decide +kernel
theorem lm_leaksIn : lwM 1 180 306 = true := by decide +kernel
theorem ll_leaksIn : Cond.methodLink RL 146 (mt 180).1 ∈ gt ∧ Cond.methodLink RL 149 (mt 306).1 ∈ gt := by decide +kernel
theorem lk_crossed : lwB0 1148 150 153 666 = true := by decide +kernel
theorem lm_crossed : lwM 0 181 307 = true := by decide +kernel
theorem ll_crossed : Cond.methodLink RL 150 (mt 181).1 ∈ gt ∧ Cond.methodLink RL 153 (mt 307).1 ∈ gt := by decide +kernel
theorem lk_bridge : lwBb 1161 154 158 613 = true := by decide +kernel
theorem lm_bridge : lwM 2 182 310 = true := by decide +kernel
theorem ll_bridge : Cond.methodLink RL 154 (mt 182).1 ∈ gt ∧ Cond.methodLink RL 158 (mt 310).1 ∈ gt := by decide +kernel
theorem lk_lastOver : lwB1 1214 159 162 588 = true := by decide +kernel
theorem lm_lastOver : lwM 1 184 314 = true := by decide +kernel
theorem ll_lastOver : Cond.methodLink RL 159 (mt 184).1 ∈ gt ∧ Cond.methodLink RL 162 (mt 314).1 ∈ gt := by decide +kernel
theorem lk_rests : lwB1 1239 163 166 563 = true := by decide +kernel
theorem lm_rests : lwM 1 185 315 = true := by decide +kernel
theorem ll_rests : Cond.methodLink RL 163 (mt 185).1 ∈ gt ∧ Cond.methodLink RL 166 (mt 315).1 ∈ gt := by decide +kernel
theorem lk_holds : lwBb 1264 167 170 510 = true := by decide +kernel
theorem lm_holds : lwM 2 187 318 = true := by decide +kernel
theorem ll_holds : Cond.methodLink RL 167 (mt 187).1 ∈ gt ∧ Cond.methodLink RL 170 (mt 318).1 ∈ gt := by decide +kernel
theorem lk_plays : lwB4 1317 171 175 449 = true := by decide +kernel
theorem lm_plays : lwM 4 188 319 = true := by decide +kernel
theorem ll_plays : Cond.methodLink RL 171 (mt 188).1 ∈ gt ∧ Cond.methodLink RL 175 (mt 319).1 ∈ gt := by decide +kernel
theorem lk_bestRule : lwB2 1378 176 179 412 = true := by decide +kernel
theorem lm_bestRule : lwM 2 189 322 = true := by decide +kernel
theorem ll_bestRule : Cond.methodLink RL 176 (mt 189).1 ∈ gt ∧ Cond.methodLink RL 179 (mt 322).1 ∈ gt := by decide +kernel
theorem lk_fits : lwB1 1415 180 183 387 = true := by decide +kernel
theorem lm_fits : lwM 1 190 323 = true := by decide +kernel
theorem ll_fits : Cond.methodLink RL 180 (mt 190).1 ∈ gt ∧ Cond.methodLink RL 183 (mt 323).1 ∈ gt := by decide +kernel
theorem lk_could : lwB1 1440 184 187 362 = true := by decide +kernel
theorem lm_could : lwM 1 192 324 = true := by decide +kernel
theorem ll_could : Cond.methodLink RL 184 (mt 192).1 ∈ gt ∧ Cond.methodLink RL 187 (mt 324).1 ∈ gt := by decide +kernel
theorem lk_surely : lwB1 1465 188 191 337 = true := by decide +kernel
theorem lm_surely : lwM 1 193 326 = true := by decide +kernel
theorem ll_surely : Cond.methodLink RL 188 (mt 193).1 ∈ gt ∧ Cond.methodLink RL 191 (mt 326).1 ∈ gt := by decide +kernel
theorem lk_fitsWith : lwB2 1490 192 195 300 = true := by decide +kernel
theorem lm_fitsWith : lwM 2 194 327 = true := by decide +kernel
theorem ll_fitsWith : Cond.methodLink RL 192 (mt 194).1 ∈ gt ∧ Cond.methodLink RL 195 (mt 327).1 ∈ gt := by decide +kernel
theorem lk_ask : lwB1 1527 196 199 275 = true := by decide +kernel
theorem lm_ask : lwM 1 196 328 = true := by decide +kernel
theorem ll_ask : Cond.methodLink RL 196 (mt 196).1 ∈ gt ∧ Cond.methodLink RL 199 (mt 328).1 ∈ gt := by decide +kernel
theorem lk_lays : lwB2 1552 200 204 238 = true := by decide +kernel
theorem lm_lays : lwM 2 197 329 = true := by decide +kernel
theorem ll_lays : Cond.methodLink RL 200 (mt 197).1 ∈ gt ∧ Cond.methodLink RL 204 (mt 329).1 ∈ gt := by decide +kernel
theorem lk_laysBest : lwB1 1589 205 208 213 = true := by decide +kernel
theorem lm_laysBest : lwM 1 200 332 = true := by decide +kernel
theorem ll_laysBest : Cond.methodLink RL 205 (mt 200).1 ∈ gt ∧ Cond.methodLink RL 208 (mt 332).1 ∈ gt := by decide +kernel
theorem lk_night : lwB0 1614 209 212 200 = true := by decide +kernel
theorem lm_night : lwM 0 201 333 = true := by decide +kernel
theorem ll_night : Cond.methodLink RL 209 (mt 201).1 ∈ gt ∧ Cond.methodLink RL 212 (mt 333).1 ∈ gt := by decide +kernel
theorem lk_nights : lwB1 1627 213 216 175 = true := by decide +kernel
theorem lm_nights : lwM 1 202 334 = true := by decide +kernel
theorem ll_nights : Cond.methodLink RL 213 (mt 202).1 ∈ gt ∧ Cond.methodLink RL 216 (mt 334).1 ∈ gt := by decide +kernel
theorem lk_seed : lwB1 1652 217 221 150 = true := by decide +kernel
theorem lm_seed : lwM 1 203 335 = true := by decide +kernel
theorem ll_seed : Cond.methodLink RL 217 (mt 203).1 ∈ gt ∧ Cond.methodLink RL 221 (mt 335).1 ∈ gt := by decide +kernel
theorem lk_undo : lwB0 1677 222 226 137 = true := by decide +kernel
theorem lm_undo : lwM 0 204 336 = true := by decide +kernel
theorem ll_undo : Cond.methodLink RL 222 (mt 204).1 ∈ gt ∧ Cond.methodLink RL 226 (mt 336).1 ∈ gt := by decide +kernel
theorem lk_image : lwB0 1690 227 230 124 = true := by decide +kernel
theorem lm_image : lwM 0 205 337 = true := by decide +kernel
theorem ll_image : Cond.methodLink RL 227 (mt 205).1 ∈ gt ∧ Cond.methodLink RL 230 (mt 337).1 ∈ gt := by decide +kernel
theorem lk_back : lwB1 1703 231 234 99 = true := by decide +kernel
theorem lm_back : lwM 1 206 338 = true := by decide +kernel
theorem ll_back : Cond.methodLink RL 231 (mt 206).1 ∈ gt ∧ Cond.methodLink RL 234 (mt 338).1 ∈ gt := by decide +kernel
theorem lk_size : lwB1 1784 244 247 18 = true := by decide +kernel
theorem lm_size : lwM 1 207 340 = true := by decide +kernel
theorem ll_size : Cond.methodLink RL 244 (mt 207).1 ∈ gt ∧ Cond.methodLink RL 247 (mt 340).1 ∈ gt := by decide +kernel
theorem lk_trouble : lwB0 1809 248 251 5 = true := by decide +kernel
theorem lm_trouble : lwM 0 208 341 = true := by decide +kernel
theorem ll_trouble : Cond.methodLink RL 248 (mt 208).1 ∈ gt ∧ Cond.methodLink RL 251 (mt 341).1 ∈ gt := by decide +kernel
