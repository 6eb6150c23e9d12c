theorem w_f0 : ∀ w ∈ u_ws RX0 TX0 3, w ∈ mm_W := fun w hw => List.mem_filter.mpr ⟨mm_f0 w hw, List.all_eq_true.mp (show (u_ws RX0 TX0 3).all goodWord = true by decide +kernel) w hw⟩
theorem w_f1 : ∀ w ∈ u_ws RX1 TX1 1, w ∈ mm_W := fun w hw => List.mem_filter.mpr ⟨mm_f1 w hw, List.all_eq_true.mp (show (u_ws RX1 TX1 1).all goodWord = true by decide +kernel) w hw⟩
theorem w_f2 : ∀ w ∈ u_ws RX2 TX2 1, w ∈ mm_W := fun w hw => List.mem_filter.mpr ⟨mm_f2 w hw, List.all_eq_true.mp (show (u_ws RX2 TX2 1).all goodWord = true by decide +kernel) w hw⟩
theorem w_f3 : ∀ w ∈ u_ws RX3 TX3 5, w ∈ mm_W := fun w hw => List.mem_filter.mpr ⟨mm_f3 w hw, List.all_eq_true.mp (show (u_ws RX3 TX3 5).all goodWord = true by decide +kernel) w hw⟩
theorem w_f4 : ∀ w ∈ u_ws RX4 TX4 3, w ∈ mm_W := fun w hw => List.mem_filter.mpr ⟨mm_f4 w hw, List.all_eq_true.mp (show (u_ws RX4 TX4 3).all goodWord = true by decide +kernel) w hw⟩
theorem w_f5 : ∀ w ∈ u_ws RX5 TX5 5, w ∈ mm_W := fun w hw => List.mem_filter.mpr ⟨mm_f5 w hw, List.all_eq_true.mp (show (u_ws RX5 TX5 5).all goodWord = true by decide +kernel) w hw⟩
theorem w_f6 : ∀ w ∈ u_ws RX6 TX6 4, w ∈ mm_W := fun w hw => List.mem_filter.mpr ⟨mm_f6 w hw, List.all_eq_true.mp (show (u_ws RX6 TX6 4).all goodWord = true by decide +kernel) w hw⟩
theorem w_f7 : ∀ w ∈ u_ws RX7 TX7 2, w ∈ mm_W := fun w hw => List.mem_filter.mpr ⟨mm_f7 w hw, List.all_eq_true.mp (show (u_ws RX7 TX7 2).all goodWord = true by decide +kernel) w hw⟩
theorem w_f8 : ∀ w ∈ u_ws RX8 TX8 12, w ∈ mm_W := fun w hw => List.mem_filter.mpr ⟨mm_f8 w hw, List.all_eq_true.mp (show (u_ws RX8 TX8 12).all goodWord = true by decide +kernel) w hw⟩
theorem w_f9 : ∀ w ∈ u_ws RX9 TX9 54, w ∈ mm_W := fun w hw => List.mem_filter.mpr ⟨mm_f9 w hw, List.all_eq_true.mp (show (u_ws RX9 TX9 54).all goodWord = true by decide +kernel) w hw⟩
theorem l_X8_1 : Cond.methodLink RX8 1 Lib.objectInit ∈ mm_W ∧ Cond.instanceMethod Lib.objectInit ∈ mm_W ∧ Cond.code Lib.objectInit ⟨#[0xb1]⟩ 1 none ∈ mm_W := ⟨mm_in1 25 (by decide +kernel) rfl, mm_in1 26 (by decide +kernel) rfl, mm_in1 27 (by decide +kernel) rfl⟩
theorem l_X8_9 : Cond.methodLink RX8 9 yX6_init ∈ mm_W := mm_in1 30 (by decide +kernel) rfl
theorem l_X8_18 : Cond.methodLinkNest RX8 18 yX0_init "CableShip" ∈ mm_N := mm_inN1 54 (by decide +kernel) rfl
theorem l_X8_25 : Cond.methodLinkNest RX8 25 yX3_init "CableShip" ∈ mm_N := mm_inN1 73 (by decide +kernel) rfl
theorem l_X8_32 : Cond.methodLinkNest RX8 32 yX5_init "CableShip" ∈ mm_N := mm_inN1 117 (by decide +kernel) rfl
theorem l_X8_39 : Cond.methodLinkNest RX8 39 yX2_init "CableShip" ∈ mm_N := mm_inN1 156 (by decide +kernel) rfl
theorem l_X8_46 : Cond.methodLink RX8 46 yX4_init ∈ mm_W := mm_in1 168 (by decide +kernel) rfl
theorem l_X8_51 : Cond.methodLink RX8 51 yX8_isCell ∈ mm_W := mm_in2 190 (by decide +kernel) rfl
theorem l_X8_55 : Cond.methodLink RX8 55 yX8_isIn ∈ mm_W := mm_in2 193 (by decide +kernel) rfl
theorem l_X8_59 : Cond.methodLink RX8 59 yX8_needArgument ∈ mm_W := mm_in2 196 (by decide +kernel) rfl
theorem l_X8_67 : Cond.methodLink RX8 67 yX8_needState ∈ mm_W := mm_in3 27 (by decide +kernel) rfl
theorem l_X8_70 : Cond.methodLink RX8 70 yX6_takeSounding ∈ mm_W := mm_in3 46 (by decide +kernel) rfl
theorem l_X8_74 : Cond.methodLink RX8 74 yX6_depthOf ∈ mm_W := mm_in3 51 (by decide +kernel) rfl
theorem l_X8_78 : Cond.methodLink RX8 78 yX6_hasWreck ∈ mm_W := mm_in3 62 (by decide +kernel) rfl
theorem l_X8_81 : Cond.methodLink RX8 81 yX6_setWreck ∈ mm_W := mm_in3 66 (by decide +kernel) rfl
theorem l_X8_85 : Cond.methodLink RX8 85 yX6_crossingOf ∈ mm_W := mm_in3 77 (by decide +kernel) rfl
theorem l_X8_88 : Cond.methodLink RX8 88 yX6_setCrossing ∈ mm_W := mm_in3 81 (by decide +kernel) rfl
theorem l_X8_99 : Cond.methodLink RX8 99 yX0_wavesToday ∈ mm_W := mm_in2 131 (by decide +kernel) rfl
theorem l_X8_103 : Cond.methodLink RX8 103 yX8_passOneDay ∈ mm_W := mm_in3 100 (by decide +kernel) rfl
theorem l_X8_106 : Cond.methodLink RX8 106 yX0_nextDay ∈ mm_W := mm_in3 104 (by decide +kernel) rfl
theorem l_X8_116 : Cond.methodLink RX8 116 yX8_liesAtB ∈ mm_W := mm_in2 29 (by decide +kernel) rfl
theorem l_X8_120 : Cond.methodLink RX8 120 yX8_buoy ∈ mm_W := mm_in3 109 (by decide +kernel) rfl
theorem l_X8_126 : Cond.methodLink RX8 126 yJ9_min_7cf53 ∈ mm_W := mm_in3 113 (by decide +kernel) rfl
theorem l_X8_138 : Cond.methodLink RX8 138 yX5_loseEnd ∈ mm_W := mm_in3 114 (by decide +kernel) rfl
theorem l_X8_142 : Cond.methodLink RX8 142 yX2_dropFrom ∈ mm_W := mm_in3 133 (by decide +kernel) rfl
theorem l_X8_145 : Cond.methodLink RX8 145 yX2_beginAnew ∈ mm_W := mm_in3 138 (by decide +kernel) rfl
theorem l_X8_148 : Cond.methodLink RX8 148 yX8_isType ∈ mm_W := mm_in3 150 (by decide +kernel) rfl
theorem l_X8_152 : Cond.methodLink RX8 152 yX8_isTank ∈ mm_W := mm_in3 154 (by decide +kernel) rfl
theorem l_X8_158 : Cond.methodLink RX8 158 yX3_stow ∈ mm_W := mm_in3 157 (by decide +kernel) rfl
theorem l_X8_162 : Cond.methodLink RX8 162 yX8_layOneCell ∈ mm_W := mm_in3 169 (by decide +kernel) rfl
theorem l_X8_166 : Cond.methodLink RX8 166 yX8_mayGoOn ∈ mm_W := mm_in3 173 (by decide +kernel) rfl
theorem l_X8_169 : Cond.methodLink RX8 169 yX6_isOpen ∈ mm_W := mm_in3 177 (by decide +kernel) rfl
theorem l_X8_172 : Cond.methodLink RX8 172 yX6_groundOf ∈ mm_W := mm_in3 183 (by decide +kernel) rfl
theorem l_X8_175 : Cond.methodLink RX8 175 yX3_gather ∈ mm_W := mm_in3 188 (by decide +kernel) rfl
theorem l_X8_178 : Cond.methodLink RX8 178 yX3_holdsAt ∈ mm_W := mm_in3 197 (by decide +kernel) rfl
theorem l_X8_181 : Cond.methodLink RX8 181 yX8_typeAt ∈ mm_W := mm_in3 211 (by decide +kernel) rfl
theorem l_X8_184 : Cond.methodLink RX8 184 yX3_fits ∈ mm_W := mm_in3 225 (by decide +kernel) rfl
theorem l_X8_187 : Cond.methodLink RX8 187 yX8_putBehind ∈ mm_W := mm_in3 235 (by decide +kernel) rfl
theorem l_X8_190 : Cond.methodLink RX8 190 yX3_sendOut ∈ mm_W := mm_in4 21 (by decide +kernel) rfl
theorem l_X8_193 : Cond.methodLink RX8 193 yX5_endCell ∈ mm_W := mm_in4 27 (by decide +kernel) rfl
theorem l_X8_196 : Cond.methodLink RX8 196 yX0_isForWork ∈ mm_W := mm_in2 139 (by decide +kernel) rfl
theorem l_X8_208 : Cond.methodLink RX8 208 yX7_get ∈ mm_W := mm_in3 239 (by decide +kernel) rfl
theorem l_X8_211 : Cond.methodLink RX8 211 yX5_append ∈ mm_W := mm_in4 0 (by decide +kernel) rfl
theorem l_X8_214 : Cond.methodLink RX8 214 yX5_lastKind ∈ mm_W := mm_in4 38 (by decide +kernel) rfl
theorem l_X8_217 : Cond.methodLink RX8 217 yX5_addBare ∈ mm_W := mm_in4 39 (by decide +kernel) rfl
theorem l_X8_220 : Cond.methodLink RX8 220 yX5_count ∈ mm_W := mm_in4 40 (by decide +kernel) rfl
theorem l_X8_223 : Cond.methodLink RX8 223 yX5_regainEnd ∈ mm_W := mm_in4 51 (by decide +kernel) rfl
theorem l_X8_232 : Cond.methodLink RX8 232 yX2_size ∈ mm_W := mm_in2 168 (by decide +kernel) rfl
theorem l_X8_235 : Cond.methodLink RX8 235 yX2_enter ∈ mm_W := mm_in4 66 (by decide +kernel) rfl
theorem l_X8_238 : Cond.methodLink RX8 238 yX5_beginOf ∈ mm_W := mm_in4 78 (by decide +kernel) rfl
theorem l_X8_241 : Cond.methodLink RX8 241 yX5_metresIn ∈ mm_W := mm_in4 86 (by decide +kernel) rfl
theorem l_X8_244 : Cond.methodLink RX8 244 yX2_nearest ∈ mm_W := mm_in4 94 (by decide +kernel) rfl
theorem l_X8_248 : Cond.methodLink RX8 248 yX2_placeOf ∈ mm_W := mm_in4 102 (by decide +kernel) rfl
theorem l_X8_251 : Cond.methodLink RX8 251 yX5_hasRepeater ∈ mm_W := mm_in4 103 (by decide +kernel) rfl
theorem l_X8_255 : Cond.methodLink RX8 255 yJ9_max_7cf53 ∈ mm_W := mm_in4 107 (by decide +kernel) rfl
theorem l_X8_258 : Cond.methodLink RX8 258 yX2_narrow ∈ mm_W := mm_in4 108 (by decide +kernel) rfl
theorem l_X8_261 : Cond.methodLink RX8 261 yX5_exchange ∈ mm_W := mm_in4 120 (by decide +kernel) rfl
theorem l_X8_268 : Cond.methodLink RX8 268 yX2_cutOut ∈ mm_W := mm_in4 134 (by decide +kernel) rfl
theorem l_X8_271 : Cond.methodLink RX8 271 yX8_isPair ∈ mm_W := mm_in4 145 (by decide +kernel) rfl
theorem l_X8_277 : Cond.methodLink RX8 277 yX7_add ∈ mm_W := mm_in4 148 (by decide +kernel) rfl
theorem l_X8_281 : Cond.methodLink RX8 281 yX8_needIndex ∈ mm_W := mm_in4 157 (by decide +kernel) rfl
theorem l_X8_284 : Cond.methodLink RX8 284 yX7_set ∈ mm_W := mm_in4 176 (by decide +kernel) rfl
theorem l_X8_290 : Cond.methodLink RX8 290 yX8_deadLinks ∈ mm_W := mm_in2 13 (by decide +kernel) rfl
theorem l_X8_293 : Cond.methodLink RX8 293 yX4_carry ∈ mm_W := mm_in4 184 (by decide +kernel) rfl
theorem l_X8_296 : Cond.methodLink RX8 296 yX4_takeOff ∈ mm_W := mm_in2 74 (by decide +kernel) rfl
theorem l_X8_299 : Cond.methodLink RX8 299 yX4_carryDark ∈ mm_W := mm_in2 86 (by decide +kernel) rfl
theorem l_X8_302 : Cond.methodLink RX8 302 yX4_wayOf ∈ mm_W := mm_in4 192 (by decide +kernel) rfl
theorem l_X8_305 : Cond.methodLink RX8 305 yX4_toldDead ∈ mm_W := mm_in2 17 (by decide +kernel) rfl
theorem l_X8_308 : Cond.methodLink RX8 308 yX8_lineWorks ∈ mm_W := mm_in2 25 (by decide +kernel) rfl
theorem l_X8_311 : Cond.methodLink RX8 311 yX3_pull ∈ mm_W := mm_in4 214 (by decide +kernel) rfl
theorem l_X8_314 : Cond.methodLink RX8 314 yX3_metresIn ∈ mm_W := mm_in2 176 (by decide +kernel) rfl
theorem l_X8_315 : Cond.methodLink RX8 315 yX3_piecesIn ∈ mm_W := mm_in4 222 (by decide +kernel) rfl
theorem l_X8_318 : Cond.methodLink RX8 318 yX3_top ∈ mm_W := mm_in4 226 (by decide +kernel) rfl
theorem l_X8_321 : Cond.methodLink RX8 321 yX3_typeOf ∈ mm_W := mm_in3 224 (by decide +kernel) rfl
theorem l_X8_327 : Cond.methodLink RX8 327 yX5_metreAt ∈ mm_W := mm_in5 11 (by decide +kernel) rfl
theorem l_X8_330 : Cond.methodLink RX8 330 yX5_metreByDeeds ∈ mm_W := mm_in5 19 (by decide +kernel) rfl
theorem l_X8_333 : Cond.methodLink RX8 333 yX8_marginToday ∈ mm_W := mm_in2 66 (by decide +kernel) rfl
theorem l_X8_336 : Cond.methodLink RX8 336 yX5_reachOf ∈ mm_W := mm_in2 152 (by decide +kernel) rfl
theorem l_X8_339 : Cond.methodLink RX8 339 yX8_lineIsFed ∈ mm_W := mm_in2 38 (by decide +kernel) rfl
theorem l_X8_342 : Cond.methodLink RX8 342 yX2_tell ∈ mm_W := mm_in5 36 (by decide +kernel) rfl
theorem l_X8_348 : Cond.methodLink RX8 348 yX5_pieceAt ∈ mm_W := mm_in3 215 (by decide +kernel) rfl
theorem l_X8_351 : Cond.methodLink RX8 351 yX5_leastSignal ∈ mm_W := mm_in2 70 (by decide +kernel) rfl
theorem l_X8_354 : Cond.methodLink RX8 354 yX2_firstShunt ∈ mm_W := mm_in2 42 (by decide +kernel) rfl
theorem l_X8_357 : Cond.methodLink RX8 357 yX5_dropsAhead ∈ mm_W := mm_in2 46 (by decide +kernel) rfl
theorem l_X8_360 : Cond.methodLink RX8 360 yX2_lastShunt ∈ mm_W := mm_in2 55 (by decide +kernel) rfl
theorem l_X8_363 : Cond.methodLink RX8 363 yX5_dropsBehind ∈ mm_W := mm_in2 62 (by decide +kernel) rfl
theorem l_X8_366 : Cond.methodLink RX8 366 yX2_hasBreak ∈ mm_W := mm_in2 33 (by decide +kernel) rfl
theorem l_X0_1 : Cond.methodLink RX0 1 Lib.objectInit ∈ mm_W ∧ Cond.instanceMethod Lib.objectInit ∈ mm_W ∧ Cond.code Lib.objectInit ⟨#[0xb1]⟩ 1 none ∈ mm_W := ⟨mm_in1 57 (by decide +kernel) rfl, mm_in1 26 (by decide +kernel) rfl, mm_in1 27 (by decide +kernel) rfl⟩
theorem l_X0_17 : Cond.methodLink RX0 17 yX0_wavesToday ∈ mm_W := mm_in2 143 (by decide +kernel) rfl
theorem l_X1_3 : Cond.methodLink RX1 3 Lib.objectInit ∈ mm_W ∧ Cond.instanceMethod Lib.objectInit ∈ mm_W ∧ Cond.code Lib.objectInit ⟨#[0xb1]⟩ 1 none ∈ mm_W := ⟨mm_in1 128 (by decide +kernel) rfl, mm_in1 26 (by decide +kernel) rfl, mm_in1 27 (by decide +kernel) rfl⟩
theorem l_X1_11 : Cond.methodLink RX1 11 yX7_init ∈ mm_W := mm_in1 130 (by decide +kernel) rfl
theorem l_X1_18 : Cond.methodLink RX1 18 yX7_add ∈ mm_W := mm_in3 122 (by decide +kernel) rfl
theorem l_X1_26 : Cond.methodLink RX1 26 yX7_get ∈ mm_W := mm_in5 27 (by decide +kernel) rfl
theorem l_X2_3 : Cond.methodLink RX2 3 Lib.objectInit ∈ mm_W ∧ Cond.instanceMethod Lib.objectInit ∈ mm_W ∧ Cond.code Lib.objectInit ⟨#[0xb1]⟩ 1 none ∈ mm_W := ⟨mm_in1 159 (by decide +kernel) rfl, mm_in1 26 (by decide +kernel) rfl, mm_in1 27 (by decide +kernel) rfl⟩
theorem l_X2_11 : Cond.methodLink RX2 11 yX7_init ∈ mm_W := mm_in1 161 (by decide +kernel) rfl
theorem l_X2_21 : Cond.methodLink RX2 21 yX7_add ∈ mm_W := mm_in4 70 (by decide +kernel) rfl
theorem l_X2_25 : Cond.methodLink RX2 25 yX7_get ∈ mm_W := mm_in2 37 (by decide +kernel) rfl
theorem l_X2_29 : Cond.methodLink RX2 29 yX7_set ∈ mm_W := mm_in3 142 (by decide +kernel) rfl
theorem l_X2_33 : Cond.methodLink RX2 33 yX7_remove ∈ mm_W := mm_in3 137 (by decide +kernel) rfl
theorem l_X2_37 : Cond.methodLink RX2 37 yJ9_max_7cf53 ∈ mm_W := mm_in2 59 (by decide +kernel) rfl
theorem l_X2_42 : Cond.methodLink RX2 42 yX2_placeOf ∈ mm_W := mm_in4 98 (by decide +kernel) rfl
theorem l_X2_46 : Cond.methodLink RX2 46 yJ9_min_7cf53 ∈ mm_W := mm_in4 112 (by decide +kernel) rfl
theorem l_X3_3 : Cond.methodLink RX3 3 Lib.objectInit ∈ mm_W ∧ Cond.instanceMethod Lib.objectInit ∈ mm_W ∧ Cond.code Lib.objectInit ⟨#[0xb1]⟩ 1 none ∈ mm_W := ⟨mm_in1 76 (by decide +kernel) rfl, mm_in1 26 (by decide +kernel) rfl, mm_in1 27 (by decide +kernel) rfl⟩
theorem l_X3_17 : Cond.methodLink RX3 17 yX7_init ∈ mm_W := mm_in1 79 (by decide +kernel) rfl
theorem l_X3_32 : Cond.methodLink RX3 32 yX7_add ∈ mm_W := mm_in3 161 (by decide +kernel) rfl
theorem l_X3_39 : Cond.methodLink RX3 39 yX7_get ∈ mm_W := mm_in2 180 (by decide +kernel) rfl
theorem l_X3_43 : Cond.methodLink RX3 43 yX7_clear ∈ mm_W := mm_in3 192 (by decide +kernel) rfl
theorem l_X3_46 : Cond.methodLink RX3 46 yJ9_min_7cf53 ∈ mm_W := mm_in3 196 (by decide +kernel) rfl
theorem l_X3_51 : Cond.methodLink RX3 51 yX7_remove ∈ mm_W := mm_in4 25 (by decide +kernel) rfl
theorem l_X3_55 : Cond.methodLink RX3 55 yX7_set ∈ mm_W := mm_in4 26 (by decide +kernel) rfl
theorem l_X3_59 : Cond.methodLink RX3 59 yX3_typeOf ∈ mm_W := mm_in3 201 (by decide +kernel) rfl
theorem l_X3_63 : Cond.methodLink RX3 63 yX3_isNear ∈ mm_W := mm_in3 229 (by decide +kernel) rfl
theorem l_X3_67 : Cond.methodLink RX3 67 yX3_pull ∈ mm_W := mm_in3 205 (by decide +kernel) rfl
theorem l_X3_70 : Cond.methodLink RX3 70 yX3_mostPull ∈ mm_W := mm_in3 208 (by decide +kernel) rfl
theorem l_X3_73 : Cond.methodLink RX3 73 yJ9_abs_0f7a4 ∈ mm_W := mm_in3 232 (by decide +kernel) rfl
theorem l_X4_3 : Cond.methodLink RX4 3 Lib.objectInit ∈ mm_W ∧ Cond.instanceMethod Lib.objectInit ∈ mm_W ∧ Cond.code Lib.objectInit ⟨#[0xb1]⟩ 1 none ∈ mm_W := ⟨mm_in1 171 (by decide +kernel) rfl, mm_in1 26 (by decide +kernel) rfl, mm_in1 27 (by decide +kernel) rfl⟩
theorem l_X4_11 : Cond.methodLink RX4 11 yX7_init ∈ mm_W := mm_in1 173 (by decide +kernel) rfl
theorem l_X4_25 : Cond.methodLink RX4 25 yX7_add ∈ mm_W := mm_in1 174 (by decide +kernel) rfl
theorem l_X4_29 : Cond.methodLink RX4 29 yX7_get ∈ mm_W := mm_in2 21 (by decide +kernel) rfl
theorem l_X4_37 : Cond.methodLink RX4 37 yX4_wayOf ∈ mm_W := mm_in2 78 (by decide +kernel) rfl
theorem l_X4_41 : Cond.methodLink RX4 41 yX7_set ∈ mm_W := mm_in2 82 (by decide +kernel) rfl
theorem l_X4_45 : Cond.methodLink RX4 45 yX4_carry ∈ mm_W := mm_in2 90 (by decide +kernel) rfl
theorem l_X4_49 : Cond.methodLink RX4 49 yX4_usableLinks ∈ mm_W := mm_in2 94 (by decide +kernel) rfl
theorem l_X4_52 : Cond.methodLink RX4 52 yX4_countSteps ∈ mm_W := mm_in2 102 (by decide +kernel) rfl
theorem l_X4_55 : Cond.methodLink RX4 55 yX4_bestWay ∈ mm_W := mm_in2 115 (by decide +kernel) rfl
theorem l_X4_58 : Cond.methodLink RX4 58 yX4_freeOn ∈ mm_W := mm_in2 98 (by decide +kernel) rfl
theorem l_X4_61 : Cond.methodLink RX4 61 yJ7_fill_53178 ∈ mm_W := mm_in2 106 (by decide +kernel) rfl
theorem l_X4_67 : Cond.methodLink RX4 67 yX4_shorten ∈ mm_W := mm_in2 107 (by decide +kernel) rfl
theorem l_X4_70 : Cond.methodLink RX4 70 yX4_stepsFrom ∈ mm_W := mm_in2 111 (by decide +kernel) rfl
theorem l_X4_73 : Cond.methodLink RX4 73 yX4_otherEnd ∈ mm_W := mm_in2 119 (by decide +kernel) rfl
theorem l_X5_3 : Cond.methodLink RX5 3 Lib.objectInit ∈ mm_W ∧ Cond.instanceMethod Lib.objectInit ∈ mm_W ∧ Cond.code Lib.objectInit ⟨#[0xb1]⟩ 1 none ∈ mm_W := ⟨mm_in1 120 (by decide +kernel) rfl, mm_in1 26 (by decide +kernel) rfl, mm_in1 27 (by decide +kernel) rfl⟩
theorem l_X5_11 : Cond.methodLink RX5 11 yX7_init ∈ mm_W := mm_in1 122 (by decide +kernel) rfl
theorem l_X5_20 : Cond.methodLinkNest RX5 20 yX1_init "CableShip" ∈ mm_N := mm_inN1 125 (by decide +kernel) rfl
theorem l_X5_33 : Cond.methodLink RX5 33 yX5_metresIn ∈ mm_W := mm_in4 82 (by decide +kernel) rfl
theorem l_X5_37 : Cond.methodLinkNest RX5 37 yX8_isCell "CableShip" ∈ mm_N := mm_inN3 127 (by decide +kernel) rfl
theorem l_X5_44 : Cond.methodLink RX5 44 yX7_get ∈ mm_W := mm_in2 50 (by decide +kernel) rfl
theorem l_X5_48 : Cond.methodLink RX5 48 yX7_add ∈ mm_W := mm_in4 20 (by decide +kernel) rfl
theorem l_X5_55 : Cond.methodLink RX5 55 yX1_putIn ∈ mm_W := mm_in4 4 (by decide +kernel) rfl
theorem l_X5_58 : Cond.methodLink RX5 58 yX5_lastKind ∈ mm_W := mm_in4 8 (by decide +kernel) rfl
theorem l_X5_62 : Cond.methodLink RX5 62 yX5_goesOn ∈ mm_W := mm_in4 12 (by decide +kernel) rfl
theorem l_X5_66 : Cond.methodLink RX5 66 yX7_set ∈ mm_W := mm_in3 128 (by decide +kernel) rfl
theorem l_X5_70 : Cond.methodLink RX5 70 yX5_addBare ∈ mm_W := mm_in4 16 (by decide +kernel) rfl
theorem l_X5_74 : Cond.methodLink RX5 74 yX1_cutOut ∈ mm_W := mm_in3 118 (by decide +kernel) rfl
theorem l_X5_78 : Cond.methodLink RX5 78 yX5_regainEnd ∈ mm_W := mm_in3 123 (by decide +kernel) rfl
theorem l_X5_81 : Cond.methodLink RX5 81 yX7_remove ∈ mm_W := mm_in3 129 (by decide +kernel) rfl
theorem l_X5_84 : Cond.methodLink RX5 84 yX5_beginOf ∈ mm_W := mm_in4 124 (by decide +kernel) rfl
theorem l_X5_87 : Cond.methodLink RX5 87 yX5_cutThings ∈ mm_W := mm_in4 125 (by decide +kernel) rfl
theorem l_X5_90 : Cond.methodLink RX5 90 yX7_insert ∈ mm_W := mm_in4 133 (by decide +kernel) rfl
theorem l_X5_94 : Cond.methodLink RX5 94 yX5_divideAt ∈ mm_W := mm_in4 129 (by decide +kernel) rfl
theorem l_X5_98 : Cond.methodLink RX5 98 yX1_metreAt ∈ mm_W := mm_in5 23 (by decide +kernel) rfl
theorem l_X5_101 : Cond.methodLink RX5 101 yX5_metreAt ∈ mm_W := mm_in3 219 (by decide +kernel) rfl
theorem l_X5_102 : Cond.methodLink RX5 102 yJ9_min_7cf53 ∈ mm_W := mm_in2 51 (by decide +kernel) rfl
theorem l_X5_107 : Cond.methodLink RX5 107 yX5_dropOf ∈ mm_W := mm_in2 52 (by decide +kernel) rfl
theorem l_X6_3 : Cond.methodLink RX6 3 Lib.objectInit ∈ mm_W ∧ Cond.instanceMethod Lib.objectInit ∈ mm_W ∧ Cond.code Lib.objectInit ⟨#[0xb1]⟩ 1 none ∈ mm_W := ⟨mm_in1 33 (by decide +kernel) rfl, mm_in1 26 (by decide +kernel) rfl, mm_in1 27 (by decide +kernel) rfl⟩
theorem l_X6_25 : Cond.methodLink RX6 25 yJ7_fill_53178 ∈ mm_W := mm_in1 34 (by decide +kernel) rfl
theorem l_X6_31 : Cond.methodLinkNest RX6 31 yX8_isCell "CableShip" ∈ mm_N := mm_inN3 50 (by decide +kernel) rfl
theorem l_X6_35 : Cond.methodLink RX6 35 yX6_depthOf ∈ mm_W := mm_in3 187 (by decide +kernel) rfl
theorem l_X6_39 : Cond.methodLink RX6 39 yX6_hasWreck ∈ mm_W := mm_in3 181 (by decide +kernel) rfl
theorem l_X6_42 : Cond.methodLink RX6 42 yX6_crossingOf ∈ mm_W := mm_in3 182 (by decide +kernel) rfl
theorem l_X7_3 : Cond.methodLink RX7 3 Lib.objectInit ∈ mm_W ∧ Cond.instanceMethod Lib.objectInit ∈ mm_W ∧ Cond.code Lib.objectInit ⟨#[0xb1]⟩ 1 none ∈ mm_W := ⟨mm_in1 82 (by decide +kernel) rfl, mm_in1 26 (by decide +kernel) rfl, mm_in1 27 (by decide +kernel) rfl⟩
theorem l_X7_19 : Cond.methodLink RX7 19 yX7_insert ∈ mm_W := mm_in1 178 (by decide +kernel) rfl
theorem l_X7_24 : Cond.methodLink RX7 24 yJ7_copyOf_59c91 ∈ mm_W := mm_in1 183 (by decide +kernel) rfl
theorem l_X7_30 : Cond.methodLink RX7 30 arraycopyName ∈ mm_W ∧ Cond.native arraycopyName ∈ mm_W ∧ Cond.static arraycopyName ∈ mm_W ∧ Cond.initialized "java/lang/System" ∈ mm_W := ⟨mm_in1 199 (by decide +kernel) rfl, mm_in1 198 (by decide +kernel) rfl, mm_in1 197 (by decide +kernel) rfl, mm_in1 12 (by decide +kernel) rfl⟩
theorem l_L_7 : Cond.methodLink RL 7 yX8_sound ∈ mm_W := mm_in2 186 (by decide +kernel) rfl
theorem l_L_17 : Cond.methodLink RL 17 yX8_wreck ∈ mm_W := mm_in3 58 (by decide +kernel) rfl
theorem l_L_21 : Cond.methodLink RL 21 yX8_crossing ∈ mm_W := mm_in3 73 (by decide +kernel) rfl
theorem l_L_25 : Cond.methodLink RL 25 yX8_weather ∈ mm_W := mm_in3 88 (by decide +kernel) rfl
theorem l_L_29 : Cond.methodLink RL 29 yX8_pass ∈ mm_W := mm_in3 96 (by decide +kernel) rfl
theorem l_L_32 : Cond.methodLink RL 32 yX8_make ∈ mm_W := mm_in3 146 (by decide +kernel) rfl
theorem l_L_35 : Cond.methodLink RL 35 yX8_lay ∈ mm_W := mm_in3 165 (by decide +kernel) rfl
theorem l_L_38 : Cond.methodLink RL 38 yX8_repeater ∈ mm_W := mm_in4 34 (by decide +kernel) rfl
theorem l_L_42 : Cond.methodLink RL 42 yX8_takeUp ∈ mm_W := mm_in4 47 (by decide +kernel) rfl
theorem l_L_45 : Cond.methodLink RL 45 yX8_feed ∈ mm_W := mm_in4 55 (by decide +kernel) rfl
theorem l_L_49 : Cond.methodLink RL 49 yX8_fault ∈ mm_W := mm_in4 62 (by decide +kernel) rfl
theorem l_L_52 : Cond.methodLink RL 52 yX8_net ∈ mm_W := mm_in4 74 (by decide +kernel) rfl
theorem l_L_56 : Cond.methodLink RL 56 yX8_measure ∈ mm_W := mm_in4 90 (by decide +kernel) rfl
theorem l_L_60 : Cond.methodLink RL 60 yX8_mend ∈ mm_W := mm_in4 116 (by decide +kernel) rfl
theorem l_L_63 : Cond.methodLink RL 63 yX8_link ∈ mm_W := mm_in4 141 (by decide +kernel) rfl
theorem l_L_66 : Cond.methodLink RL 66 yX8_dead ∈ mm_W := mm_in4 153 (by decide +kernel) rfl
theorem l_L_71 : Cond.methodLink RL 71 yX8_demand ∈ mm_W := mm_in4 180 (by decide +kernel) rfl
theorem l_L_74 : Cond.methodLink RL 74 yX8_way ∈ mm_W := mm_in4 188 (by decide +kernel) rfl
theorem l_L_77 : Cond.methodLink RL 77 yX8_isLit ∈ mm_W := mm_in4 196 (by decide +kernel) rfl
theorem l_L_80 : Cond.methodLink RL 80 yX8_cell ∈ mm_W := mm_in4 203 (by decide +kernel) rfl
theorem l_L_83 : Cond.methodLink RL 83 yX8_tension ∈ mm_W := mm_in4 210 (by decide +kernel) rfl
theorem l_L_86 : Cond.methodLink RL 86 yX8_tank ∈ mm_W := mm_in4 218 (by decide +kernel) rfl
theorem l_L_89 : Cond.methodLink RL 89 yX8_line ∈ mm_W := mm_in4 233 (by decide +kernel) rfl
theorem l_L_92 : Cond.methodLink RL 92 yX8_thing ∈ mm_W := mm_in5 0 (by decide +kernel) rfl
theorem l_L_95 : Cond.methodLink RL 95 yX8_metre ∈ mm_W := mm_in5 7 (by decide +kernel) rfl
theorem l_L_98 : Cond.methodLink RL 98 yX8_metreAnew ∈ mm_W := mm_in5 15 (by decide +kernel) rfl
theorem l_L_101 : Cond.methodLink RL 101 yX8_ofFault ∈ mm_W := mm_in5 32 (by decide +kernel) rfl
theorem l_L_104 : Cond.methodLink RL 104 yX8_init ∈ mm_W := mm_in1 22 (by decide +kernel) rfl
theorem l_L_107 : Cond.methodLink RL 107 yX9_init ∈ mm_W := mm_in5 42 (by decide +kernel) rfl
theorem l_L_108 : Cond.methodLink RL 108 yL_sound ∈ mm_W := mm_in2 181 (by decide +kernel) rfl
theorem l_L_113 : Cond.methodLink RL 113 yX9_sound ∈ mm_W := mm_in5 213 (by decide +kernel) rfl
theorem l_L_114 : Cond.methodLink RL 114 yX9_thrown ∈ mm_W := mm_in5 209 (by decide +kernel) rfl
theorem l_L_117 : Cond.methodLink RL 117 yL_wreck ∈ mm_W := mm_in3 55 (by decide +kernel) rfl
theorem l_L_120 : Cond.methodLink RL 120 yX9_wreck ∈ mm_W := mm_in5 227 (by decide +kernel) rfl
theorem l_L_121 : Cond.methodLink RL 121 yL_crossing ∈ mm_W := mm_in3 70 (by decide +kernel) rfl
theorem l_L_124 : Cond.methodLink RL 124 yX9_crossing ∈ mm_W := mm_in5 231 (by decide +kernel) rfl
theorem l_L_125 : Cond.methodLink RL 125 yL_weather ∈ mm_W := mm_in3 85 (by decide +kernel) rfl
theorem l_L_128 : Cond.methodLink RL 128 yX9_weather ∈ mm_W := mm_in5 235 (by decide +kernel) rfl
theorem l_L_129 : Cond.methodLink RL 129 yL_pass ∈ mm_W := mm_in3 93 (by decide +kernel) rfl
theorem l_L_131 : Cond.methodLink RL 131 yX9_pass ∈ mm_W := mm_in6 0 (by decide +kernel) rfl
theorem l_L_132 : Cond.methodLink RL 132 yL_make ∈ mm_W := mm_in3 143 (by decide +kernel) rfl
theorem l_L_134 : Cond.methodLink RL 134 yX9_make ∈ mm_W := mm_in6 25 (by decide +kernel) rfl
theorem l_L_135 : Cond.methodLink RL 135 yL_lay ∈ mm_W := mm_in3 162 (by decide +kernel) rfl
theorem l_L_137 : Cond.methodLink RL 137 yX9_lay ∈ mm_W := mm_in6 30 (by decide +kernel) rfl
theorem l_L_138 : Cond.methodLink RL 138 yL_repeater ∈ mm_W := mm_in4 31 (by decide +kernel) rfl
theorem l_L_141 : Cond.methodLink RL 141 yX9_repeater ∈ mm_W := mm_in6 81 (by decide +kernel) rfl
theorem l_L_142 : Cond.methodLink RL 142 yL_takeUp ∈ mm_W := mm_in4 44 (by decide +kernel) rfl
theorem l_L_144 : Cond.methodLink RL 144 yX9_takeUp ∈ mm_W := mm_in6 89 (by decide +kernel) rfl
theorem l_L_145 : Cond.methodLink RL 145 yL_feed ∈ mm_W := mm_in4 52 (by decide +kernel) rfl
theorem l_L_148 : Cond.methodLink RL 148 yX9_feed ∈ mm_W := mm_in6 93 (by decide +kernel) rfl
theorem l_L_149 : Cond.methodLink RL 149 yL_fault ∈ mm_W := mm_in4 59 (by decide +kernel) rfl
theorem l_L_151 : Cond.methodLink RL 151 yX9_fault ∈ mm_W := mm_in6 137 (by decide +kernel) rfl
theorem l_L_152 : Cond.methodLink RL 152 yL_net ∈ mm_W := mm_in4 71 (by decide +kernel) rfl
theorem l_L_154 : Cond.methodLink RL 154 yX9_net ∈ mm_W := mm_in6 145 (by decide +kernel) rfl
theorem l_L_155 : Cond.methodLink RL 155 yL_measure ∈ mm_W := mm_in4 87 (by decide +kernel) rfl
theorem l_L_158 : Cond.methodLink RL 158 yX9_measure ∈ mm_W := mm_in6 153 (by decide +kernel) rfl
theorem l_L_159 : Cond.methodLink RL 159 yL_mend ∈ mm_W := mm_in4 113 (by decide +kernel) rfl
theorem l_L_161 : Cond.methodLink RL 161 yX9_mend ∈ mm_W := mm_in6 157 (by decide +kernel) rfl
theorem l_L_162 : Cond.methodLink RL 162 yL_link ∈ mm_W := mm_in4 138 (by decide +kernel) rfl
theorem l_L_164 : Cond.methodLink RL 164 yX9_link ∈ mm_W := mm_in6 177 (by decide +kernel) rfl
theorem l_L_165 : Cond.methodLink RL 165 yL_dead ∈ mm_W := mm_in4 149 (by decide +kernel) rfl
theorem l_L_167 : Cond.methodLink RL 167 yX9_dead ∈ mm_W := mm_in6 181 (by decide +kernel) rfl
theorem l_L_168 : Cond.methodLink RL 168 yL_demand ∈ mm_W := mm_in4 177 (by decide +kernel) rfl
theorem l_L_170 : Cond.methodLink RL 170 yX9_demand ∈ mm_W := mm_in6 185 (by decide +kernel) rfl
theorem l_L_171 : Cond.methodLink RL 171 yX8_restore ∈ mm_W := mm_in2 9 (by decide +kernel) rfl
theorem l_L_174 : Cond.methodLink RL 174 yX9_restore ∈ mm_W := mm_in6 209 (by decide +kernel) rfl
theorem l_L_175 : Cond.methodLink RL 175 yL_way ∈ mm_W := mm_in4 185 (by decide +kernel) rfl
theorem l_L_177 : Cond.methodLink RL 177 yX9_way ∈ mm_W := mm_in6 217 (by decide +kernel) rfl
theorem l_L_178 : Cond.methodLink RL 178 yL_isLit ∈ mm_W := mm_in4 193 (by decide +kernel) rfl
theorem l_L_180 : Cond.methodLink RL 180 yX9_isLit ∈ mm_W := mm_in6 221 (by decide +kernel) rfl
theorem l_L_181 : Cond.methodLink RL 181 yX8_day ∈ mm_W := mm_in2 123 (by decide +kernel) rfl
theorem l_L_184 : Cond.methodLink RL 184 yX9_day ∈ mm_W := mm_in6 225 (by decide +kernel) rfl
theorem l_L_185 : Cond.methodLink RL 185 yX8_waves ∈ mm_W := mm_in2 127 (by decide +kernel) rfl
theorem l_L_188 : Cond.methodLink RL 188 yX9_waves ∈ mm_W := mm_in6 229 (by decide +kernel) rfl
theorem l_L_189 : Cond.methodLink RL 189 yX8_canWork ∈ mm_W := mm_in2 135 (by decide +kernel) rfl
theorem l_L_193 : Cond.methodLink RL 193 yX9_canWork ∈ mm_W := mm_in6 233 (by decide +kernel) rfl
theorem l_L_194 : Cond.methodLink RL 194 yL_cell ∈ mm_W := mm_in4 200 (by decide +kernel) rfl
theorem l_L_196 : Cond.methodLink RL 196 yX9_cell ∈ mm_W := mm_in6 237 (by decide +kernel) rfl
theorem l_L_197 : Cond.methodLink RL 197 yL_tension ∈ mm_W := mm_in4 207 (by decide +kernel) rfl
theorem l_L_199 : Cond.methodLink RL 199 yX9_tension ∈ mm_W := mm_in7 1 (by decide +kernel) rfl
theorem l_L_200 : Cond.methodLink RL 200 yL_tank ∈ mm_W := mm_in4 215 (by decide +kernel) rfl
theorem l_L_202 : Cond.methodLink RL 202 yX9_tank ∈ mm_W := mm_in7 5 (by decide +kernel) rfl
theorem l_L_203 : Cond.methodLink RL 203 yL_line ∈ mm_W := mm_in4 230 (by decide +kernel) rfl
theorem l_L_205 : Cond.methodLink RL 205 yX9_line ∈ mm_W := mm_in7 13 (by decide +kernel) rfl
theorem l_L_206 : Cond.methodLink RL 206 yL_thing ∈ mm_W := mm_in4 237 (by decide +kernel) rfl
theorem l_L_208 : Cond.methodLink RL 208 yX9_thing ∈ mm_W := mm_in7 17 (by decide +kernel) rfl
theorem l_L_209 : Cond.methodLink RL 209 yL_metre ∈ mm_W := mm_in5 4 (by decide +kernel) rfl
theorem l_L_211 : Cond.methodLink RL 211 yX9_metre ∈ mm_W := mm_in7 21 (by decide +kernel) rfl
theorem l_L_212 : Cond.methodLink RL 212 yL_metreAnew ∈ mm_W := mm_in5 12 (by decide +kernel) rfl
theorem l_L_214 : Cond.methodLink RL 214 yX9_metreAnew ∈ mm_W := mm_in7 30 (by decide +kernel) rfl
theorem l_L_215 : Cond.methodLink RL 215 yX8_margin ∈ mm_W := mm_in2 144 (by decide +kernel) rfl
theorem l_L_218 : Cond.methodLink RL 218 yX9_margin ∈ mm_W := mm_in6 97 (by decide +kernel) rfl
theorem l_L_219 : Cond.methodLink RL 219 yX8_earth ∈ mm_W := mm_in2 148 (by decide +kernel) rfl
theorem l_L_222 : Cond.methodLink RL 222 yX9_earth ∈ mm_W := mm_in6 105 (by decide +kernel) rfl
theorem l_L_223 : Cond.methodLink RL 223 yX8_isFed ∈ mm_W := mm_in2 156 (by decide +kernel) rfl
theorem l_L_226 : Cond.methodLink RL 226 yX9_isFed ∈ mm_W := mm_in6 109 (by decide +kernel) rfl
theorem l_L_227 : Cond.methodLink RL 227 yX8_works ∈ mm_W := mm_in2 160 (by decide +kernel) rfl
theorem l_L_230 : Cond.methodLink RL 230 yX9_works ∈ mm_W := mm_in6 129 (by decide +kernel) rfl
theorem l_L_231 : Cond.methodLink RL 231 yL_ofFault ∈ mm_W := mm_in5 29 (by decide +kernel) rfl
theorem l_L_233 : Cond.methodLink RL 233 yX9_ofFault ∈ mm_W := mm_in7 34 (by decide +kernel) rfl
theorem l_L_234 : Cond.methodLink RL 234 yX8_faults ∈ mm_W := mm_in2 164 (by decide +kernel) rfl
theorem l_L_237 : Cond.methodLink RL 237 yX9_faults ∈ mm_W := mm_in7 38 (by decide +kernel) rfl
theorem l_L_238 : Cond.methodLink RL 238 yX8_isKept ∈ mm_W := mm_in2 172 (by decide +kernel) rfl
theorem l_L_241 : Cond.methodLink RL 241 yX9_isKept ∈ mm_W := mm_in7 42 (by decide +kernel) rfl
theorem l_X9_1 : Cond.methodLink RX9 1 Lib.objectInit ∈ mm_W ∧ Cond.instanceMethod Lib.objectInit ∈ mm_W ∧ Cond.code Lib.objectInit ⟨#[0xb1]⟩ 1 none ∈ mm_W := ⟨mm_in5 45 (by decide +kernel) rfl, mm_in1 26 (by decide +kernel) rfl, mm_in1 27 (by decide +kernel) rfl⟩
theorem l_X9_123 : Cond.methodLink RX9 123 yX9_isIn ∈ mm_W := mm_in5 220 (by decide +kernel) rfl
theorem l_X9_127 : Cond.methodLink RX9 127 yX9_depthOf ∈ mm_W := mm_in5 223 (by decide +kernel) rfl
theorem l_X9_131 : Cond.methodLink RX9 131 yX9_isCell ∈ mm_W := mm_in5 217 (by decide +kernel) rfl
theorem l_X9_149 : Cond.methodLink RX9 149 yX9_liesAtB ∈ mm_W := mm_in6 5 (by decide +kernel) rfl
theorem l_X9_157 : Cond.methodLink RX9 157 yX9_buoys ∈ mm_W := mm_in6 9 (by decide +kernel) rfl
theorem l_X9_160 : Cond.methodLink RX9 160 yX9_metres ∈ mm_W := mm_in6 13 (by decide +kernel) rfl
theorem l_X9_174 : Cond.methodLink RX9 174 yX9_lengthOf ∈ mm_W := mm_in6 17 (by decide +kernel) rfl
theorem l_X9_180 : Cond.methodLink RX9 180 yX9_doubts ∈ mm_W := mm_in6 21 (by decide +kernel) rfl
theorem l_X9_196 : Cond.methodLink RX9 196 yX9_pull ∈ mm_W := mm_in6 54 (by decide +kernel) rfl
theorem l_X9_200 : Cond.methodLink RX9 200 yX9_typeAt ∈ mm_W := mm_in6 61 (by decide +kernel) rfl
theorem l_X9_203 : Cond.methodLink RX9 203 yX9_puts ∈ mm_W := mm_in6 77 (by decide +kernel) rfl
theorem l_X9_207 : Cond.methodLink RX9 207 yX9_ships ∈ mm_W := mm_in6 38 (by decide +kernel) rfl
theorem l_X9_210 : Cond.methodLink RX9 210 yX9_ground ∈ mm_W := mm_in6 42 (by decide +kernel) rfl
theorem l_X9_213 : Cond.methodLink RX9 213 yX9_wouldGo ∈ mm_W := mm_in6 46 (by decide +kernel) rfl
theorem l_X9_217 : Cond.methodLink RX9 217 yX9_holds ∈ mm_W := mm_in6 50 (by decide +kernel) rfl
theorem l_X9_220 : Cond.methodLink RX9 220 yX9_lastType ∈ mm_W := mm_in6 57 (by decide +kernel) rfl
theorem l_X9_223 : Cond.methodLink RX9 223 yX9_typesFit ∈ mm_W := mm_in6 65 (by decide +kernel) rfl
theorem l_X9_226 : Cond.methodLink RX9 226 yX9_goesOut ∈ mm_W := mm_in6 69 (by decide +kernel) rfl
theorem l_X9_230 : Cond.methodLink RX9 230 yX9_appends ∈ mm_W := mm_in6 73 (by decide +kernel) rfl
theorem l_X9_233 : Cond.methodLink RX9 233 yX9_lays ∈ mm_W := mm_in6 34 (by decide +kernel) rfl
theorem l_X9_236 : Cond.methodLink RX9 236 yX9_many ∈ mm_W := mm_in6 85 (by decide +kernel) rfl
theorem l_X9_244 : Cond.methodLink RX9 244 yX9_drops ∈ mm_W := mm_in6 117 (by decide +kernel) rfl
theorem l_X9_247 : Cond.methodLink RX9 247 yX9_dropsBehind ∈ mm_W := mm_in6 121 (by decide +kernel) rfl
theorem l_X9_250 : Cond.methodLink RX9 250 yX9_repeatersUpTo ∈ mm_W := mm_in6 125 (by decide +kernel) rfl
theorem l_X9_253 : Cond.methodLink RX9 253 yX9_feeds ∈ mm_W := mm_in6 113 (by decide +kernel) rfl
theorem l_X9_256 : Cond.methodLink RX9 256 yX9_marginOf ∈ mm_W := mm_in6 101 (by decide +kernel) rfl
theorem l_X9_259 : Cond.methodLink RX9 259 yX9_worksNow ∈ mm_W := mm_in6 133 (by decide +kernel) rfl
theorem l_X9_262 : Cond.methodLink RX9 262 yX9_comes ∈ mm_W := mm_in6 141 (by decide +kernel) rfl
theorem l_X9_266 : Cond.methodLink RX9 266 yX9_begins ∈ mm_W := mm_in6 149 (by decide +kernel) rfl
theorem l_X9_272 : Cond.methodLink RX9 272 yX9_keeps ∈ mm_W := mm_in6 169 (by decide +kernel) rfl
theorem l_X9_275 : Cond.methodLink RX9 275 yX9_canMend ∈ mm_W := mm_in6 161 (by decide +kernel) rfl
theorem l_X9_278 : Cond.methodLink RX9 278 yX9_keepsFrom ∈ mm_W := mm_in6 165 (by decide +kernel) rfl
theorem l_X9_282 : Cond.methodLink RX9 282 yX9_mendsFaults ∈ mm_W := mm_in6 173 (by decide +kernel) rfl
theorem l_X9_289 : Cond.methodLink RX9 289 yX9_isDeadNow ∈ mm_W := mm_in6 201 (by decide +kernel) rfl
theorem l_X9_292 : Cond.methodLink RX9 292 yX9_hasFree ∈ mm_W := mm_in6 197 (by decide +kernel) rfl
theorem l_X9_295 : Cond.methodLink RX9 295 yX9_across ∈ mm_W := mm_in6 205 (by decide +kernel) rfl
theorem l_X9_298 : Cond.methodLink RX9 298 yX9_wayOf ∈ mm_W := mm_in6 193 (by decide +kernel) rfl
theorem l_X9_301 : Cond.methodLink RX9 301 yX9_carries ∈ mm_W := mm_in6 189 (by decide +kernel) rfl
theorem l_X9_304 : Cond.methodLink RX9 304 yX9_isCarried ∈ mm_W := mm_in6 213 (by decide +kernel) rfl
theorem l_X9_307 : Cond.methodLink RX9 307 yX9_inTank ∈ mm_W := mm_in7 9 (by decide +kernel) rfl
theorem l_X9_311 : Cond.methodLink RX9 311 yX9_metreAt ∈ mm_W := mm_in7 25 (by decide +kernel) rfl
theorem l_J7_150 : Cond.methodLink RJ7 150 arraycopyName ∈ mm_W ∧ Cond.native arraycopyName ∈ mm_W ∧ Cond.static arraycopyName ∈ mm_W ∧ Cond.initialized "java/lang/System" ∈ mm_W := ⟨mm_in1 196 (by decide +kernel) rfl, mm_in1 198 (by decide +kernel) rfl, mm_in1 197 (by decide +kernel) rfl, mm_in1 12 (by decide +kernel) rfl⟩
theorem l_J7_304 : Cond.methodLink RJ7 304 yJ9_min_7cf53 ∈ mm_W := mm_in1 193 (by decide +kernel) rfl
theorem g_X8_10 : mm_gf RX8 10 8 0 := ⟨RX8, TX8, 12, rfl, by decide, w_f8, mm_in1 212 (by decide +kernel) rfl⟩
theorem p_X8_10 : mm_pf RX8 10 8 0 true (.object "CableShip$Sea") := ⟨RX8, TX8, 12, tyX8, rfl, by decide, w_f8, mm_in1 212 (by decide +kernel) rfl, tyX8_ok, nmX8, rfl, fun _ => rfl, rfl⟩
theorem g_X8_19 : mm_gf RX8 19 8 1 := ⟨RX8, TX8, 12, rfl, by decide, w_f8, mm_in1 213 (by decide +kernel) rfl⟩
theorem p_X8_19 : mm_pf RX8 19 8 1 true (.object "CableShip$Calendar") := ⟨RX8, TX8, 12, tyX8, rfl, by decide, w_f8, mm_in1 213 (by decide +kernel) rfl, tyX8_ok, nmX8, rfl, fun _ => rfl, rfl⟩
theorem g_X8_26 : mm_gf RX8 26 8 2 := ⟨RX8, TX8, 12, rfl, by decide, w_f8, mm_in1 214 (by decide +kernel) rfl⟩
theorem p_X8_26 : mm_pf RX8 26 8 2 true (.object "CableShip$Hold") := ⟨RX8, TX8, 12, tyX8, rfl, by decide, w_f8, mm_in1 214 (by decide +kernel) rfl, tyX8_ok, nmX8, rfl, fun _ => rfl, rfl⟩
theorem g_X8_33 : mm_gf RX8 33 8 3 := ⟨RX8, TX8, 12, rfl, by decide, w_f8, mm_in1 215 (by decide +kernel) rfl⟩
theorem p_X8_33 : mm_pf RX8 33 8 3 true (.object "CableShip$Row") := ⟨RX8, TX8, 12, tyX8, rfl, by decide, w_f8, mm_in1 215 (by decide +kernel) rfl, tyX8_ok, nmX8, rfl, fun _ => rfl, rfl⟩
theorem g_X8_40 : mm_gf RX8 40 8 4 := ⟨RX8, TX8, 12, rfl, by decide, w_f8, mm_in1 216 (by decide +kernel) rfl⟩
theorem p_X8_40 : mm_pf RX8 40 8 4 true (.object "CableShip$FaultBook") := ⟨RX8, TX8, 12, tyX8, rfl, by decide, w_f8, mm_in1 216 (by decide +kernel) rfl, tyX8_ok, nmX8, rfl, fun _ => rfl, rfl⟩
theorem g_X8_47 : mm_gf RX8 47 8 5 := ⟨RX8, TX8, 12, rfl, by decide, w_f8, mm_in1 217 (by decide +kernel) rfl⟩
theorem p_X8_47 : mm_pf RX8 47 8 5 true (.object "CableShip$Network") := ⟨RX8, TX8, 12, tyX8, rfl, by decide, w_f8, mm_in1 217 (by decide +kernel) rfl, tyX8_ok, nmX8, rfl, fun _ => rfl, rfl⟩
theorem g_X8_63 : mm_gf RX8 63 5 3 := ⟨RX5, TX5, 5, rfl, by decide, w_f5, mm_in1 140 (by decide +kernel) rfl⟩
theorem p_X8_63 : mm_pf RX8 63 5 3 false .int := ⟨RX5, TX5, 5, tyX5, rfl, by decide, w_f5, mm_in1 140 (by decide +kernel) rfl, tyX5_ok, nmX5, rfl, (fun z => nomatch z), rfl⟩
theorem g_X8_93 : mm_gf RX8 93 0 0 := ⟨RX0, TX0, 3, rfl, by decide, w_f0, mm_in1 59 (by decide +kernel) rfl⟩
theorem p_X8_93 : mm_pf RX8 93 0 0 false .int := ⟨RX0, TX0, 3, tyX0, rfl, by decide, w_f0, mm_in1 59 (by decide +kernel) rfl, tyX0_ok, nmX0, rfl, (fun z => nomatch z), rfl⟩
theorem g_X8_96 : mm_gf RX8 96 0 1 := ⟨RX0, TX0, 3, rfl, by decide, w_f0, mm_in1 61 (by decide +kernel) rfl⟩
theorem p_X8_96 : mm_pf RX8 96 0 1 false .int := ⟨RX0, TX0, 3, tyX0, rfl, by decide, w_f0, mm_in1 61 (by decide +kernel) rfl, tyX0_ok, nmX0, rfl, (fun z => nomatch z), rfl⟩
theorem g_X8_109 : mm_gf RX8 109 8 6 := ⟨RX8, TX8, 12, rfl, by decide, w_f8, mm_in1 218 (by decide +kernel) rfl⟩
theorem p_X8_109 : mm_pf RX8 109 8 6 false .int := ⟨RX8, TX8, 12, tyX8, rfl, by decide, w_f8, mm_in1 218 (by decide +kernel) rfl, tyX8_ok, nmX8, rfl, fun _ => rfl, rfl⟩
theorem g_X8_112 : mm_gf RX8 112 8 7 := ⟨RX8, TX8, 12, rfl, by decide, w_f8, mm_in1 219 (by decide +kernel) rfl⟩
theorem p_X8_112 : mm_pf RX8 112 8 7 false .boolean := ⟨RX8, TX8, 12, tyX8, rfl, by decide, w_f8, mm_in1 219 (by decide +kernel) rfl, tyX8_ok, nmX8, rfl, fun _ => rfl, rfl⟩
theorem g_X8_123 : mm_gf RX8 123 5 4 := ⟨RX5, TX5, 5, rfl, by decide, w_f5, mm_in1 142 (by decide +kernel) rfl⟩
theorem p_X8_123 : mm_pf RX8 123 5 4 false .int := ⟨RX5, TX5, 5, tyX5, rfl, by decide, w_f5, mm_in1 142 (by decide +kernel) rfl, tyX5_ok, nmX5, rfl, (fun z => nomatch z), rfl⟩
theorem g_X8_132 : mm_gf RX8 132 8 8 := ⟨RX8, TX8, 12, rfl, by decide, w_f8, mm_in1 220 (by decide +kernel) rfl⟩
theorem p_X8_132 : mm_pf RX8 132 8 8 false .int := ⟨RX8, TX8, 12, tyX8, rfl, by decide, w_f8, mm_in1 220 (by decide +kernel) rfl, tyX8_ok, nmX8, rfl, fun _ => rfl, rfl⟩
theorem g_X8_135 : mm_gf RX8 135 8 9 := ⟨RX8, TX8, 12, rfl, by decide, w_f8, mm_in1 221 (by decide +kernel) rfl⟩
theorem p_X8_135 : mm_pf RX8 135 8 9 false .int := ⟨RX8, TX8, 12, tyX8, rfl, by decide, w_f8, mm_in1 221 (by decide +kernel) rfl, tyX8_ok, nmX8, rfl, fun _ => rfl, rfl⟩
theorem g_X8_155 : mm_gf RX8 155 3 3 := ⟨RX3, TX3, 5, rfl, by decide, w_f3, mm_in1 101 (by decide +kernel) rfl⟩
theorem p_X8_155 : mm_pf RX8 155 3 3 false .int := ⟨RX3, TX3, 5, tyX3, rfl, by decide, w_f3, mm_in1 101 (by decide +kernel) rfl, tyX3_ok, nmX3, rfl, (fun z => nomatch z), rfl⟩
theorem g_X8_199 : mm_gf RX8 199 3 2 := ⟨RX3, TX3, 5, rfl, by decide, w_f3, mm_in1 99 (by decide +kernel) rfl⟩
theorem g_X8_203 : mm_gf RX8 203 7 1 := ⟨RX7, TX7, 2, rfl, by decide, w_f7, mm_in1 90 (by decide +kernel) rfl⟩
theorem p_X8_203 : mm_pf RX8 203 7 1 false .int := ⟨RX7, TX7, 2, tyX7, rfl, by decide, w_f7, mm_in1 90 (by decide +kernel) rfl, tyX7_ok, nmX7, rfl, (fun z => nomatch z), rfl⟩
theorem g_X8_226 : mm_gf RX8 226 8 10 := ⟨RX8, TX8, 12, rfl, by decide, w_f8, mm_in1 222 (by decide +kernel) rfl⟩
theorem p_X8_226 : mm_pf RX8 226 8 10 false .int := ⟨RX8, TX8, 12, tyX8, rfl, by decide, w_f8, mm_in1 222 (by decide +kernel) rfl, tyX8_ok, nmX8, rfl, fun _ => rfl, rfl⟩
theorem g_X8_229 : mm_gf RX8 229 8 11 := ⟨RX8, TX8, 12, rfl, by decide, w_f8, mm_in1 223 (by decide +kernel) rfl⟩
theorem p_X8_229 : mm_pf RX8 229 8 11 false .int := ⟨RX8, TX8, 12, tyX8, rfl, by decide, w_f8, mm_in1 223 (by decide +kernel) rfl, tyX8_ok, nmX8, rfl, fun _ => rfl, rfl⟩
theorem g_X8_265 : mm_gf RX8 265 0 2 := ⟨RX0, TX0, 3, rfl, by decide, w_f0, mm_in1 63 (by decide +kernel) rfl⟩
theorem p_X8_265 : mm_pf RX8 265 0 2 false .int := ⟨RX0, TX0, 3, tyX0, rfl, by decide, w_f0, mm_in1 63 (by decide +kernel) rfl, tyX0_ok, nmX0, rfl, (fun z => nomatch z), rfl⟩
theorem g_X8_274 : mm_gf RX8 274 4 0 := ⟨RX4, TX4, 3, rfl, by decide, w_f4, mm_in1 201 (by decide +kernel) rfl⟩
theorem g_X8_287 : mm_gf RX8 287 4 1 := ⟨RX4, TX4, 3, rfl, by decide, w_f4, mm_in1 203 (by decide +kernel) rfl⟩
theorem g_X8_324 : mm_gf RX8 324 5 0 := ⟨RX5, TX5, 5, rfl, by decide, w_f5, mm_in1 136 (by decide +kernel) rfl⟩
theorem g_X8_345 : mm_gf RX8 345 3 4 := ⟨RX3, TX3, 5, rfl, by decide, w_f3, mm_in1 103 (by decide +kernel) rfl⟩
theorem p_X8_345 : mm_pf RX8 345 3 4 false .int := ⟨RX3, TX3, 5, tyX3, rfl, by decide, w_f3, mm_in1 103 (by decide +kernel) rfl, tyX3_ok, nmX3, rfl, (fun z => nomatch z), rfl⟩
theorem g_X0_7 : mm_gf RX0 7 0 0 := ⟨RX0, TX0, 3, rfl, by decide, w_f0, mm_in1 58 (by decide +kernel) rfl⟩
theorem p_X0_7 : mm_pf RX0 7 0 0 false .int := ⟨RX0, TX0, 3, tyX0, rfl, by decide, w_f0, mm_in1 58 (by decide +kernel) rfl, tyX0_ok, nmX0, rfl, fun _ => rfl, rfl⟩
theorem g_X0_13 : mm_gf RX0 13 0 1 := ⟨RX0, TX0, 3, rfl, by decide, w_f0, mm_in1 60 (by decide +kernel) rfl⟩
theorem p_X0_13 : mm_pf RX0 13 0 1 false .int := ⟨RX0, TX0, 3, tyX0, rfl, by decide, w_f0, mm_in1 60 (by decide +kernel) rfl, tyX0_ok, nmX0, rfl, fun _ => rfl, rfl⟩
theorem g_X0_21 : mm_gf RX0 21 0 2 := ⟨RX0, TX0, 3, rfl, by decide, w_f0, mm_in1 62 (by decide +kernel) rfl⟩
theorem p_X0_21 : mm_pf RX0 21 0 2 false .int := ⟨RX0, TX0, 3, tyX0, rfl, by decide, w_f0, mm_in1 62 (by decide +kernel) rfl, tyX0_ok, nmX0, rfl, fun _ => rfl, rfl⟩
theorem g_X1_12 : mm_gf RX1 12 1 0 := ⟨RX1, TX1, 1, rfl, by decide, w_f1, mm_in1 131 (by decide +kernel) rfl⟩
theorem p_X1_12 : mm_pf RX1 12 1 0 true (.object "CableShip$Table") := ⟨RX1, TX1, 1, tyX1, rfl, by decide, w_f1, mm_in1 131 (by decide +kernel) rfl, tyX1_ok, nmX1, rfl, fun _ => rfl, rfl⟩
theorem g_X1_22 : mm_gf RX1 22 7 1 := ⟨RX7, TX7, 2, rfl, by decide, w_f7, mm_in1 87 (by decide +kernel) rfl⟩
theorem p_X1_22 : mm_pf RX1 22 7 1 false .int := ⟨RX7, TX7, 2, tyX7, rfl, by decide, w_f7, mm_in1 87 (by decide +kernel) rfl, tyX7_ok, nmX7, rfl, (fun z => nomatch z), rfl⟩
theorem g_X2_12 : mm_gf RX2 12 2 0 := ⟨RX2, TX2, 1, rfl, by decide, w_f2, mm_in1 162 (by decide +kernel) rfl⟩
theorem p_X2_12 : mm_pf RX2 12 2 0 true (.object "CableShip$Table") := ⟨RX2, TX2, 1, tyX2, rfl, by decide, w_f2, mm_in1 162 (by decide +kernel) rfl, tyX2_ok, nmX2, rfl, fun _ => rfl, rfl⟩
theorem g_X2_18 : mm_gf RX2 18 7 1 := ⟨RX7, TX7, 2, rfl, by decide, w_f7, mm_in1 84 (by decide +kernel) rfl⟩
theorem p_X2_18 : mm_pf RX2 18 7 1 false .int := ⟨RX7, TX7, 2, tyX7, rfl, by decide, w_f7, mm_in1 84 (by decide +kernel) rfl, tyX7_ok, nmX7, rfl, (fun z => nomatch z), rfl⟩
theorem g_X3_11 : mm_gf RX3 11 3 0 := ⟨RX3, TX3, 5, rfl, by decide, w_f3, mm_in1 96 (by decide +kernel) rfl⟩
theorem p_X3_11 : mm_pf RX3 11 3 0 true (.array .int) := ⟨RX3, TX3, 5, tyX3, rfl, by decide, w_f3, mm_in1 96 (by decide +kernel) rfl, tyX3_ok, nmX3, rfl, fun _ => rfl, rfl⟩
theorem g_X3_18 : mm_gf RX3 18 3 1 := ⟨RX3, TX3, 5, rfl, by decide, w_f3, mm_in1 97 (by decide +kernel) rfl⟩
theorem p_X3_18 : mm_pf RX3 18 3 1 true (.object "CableShip$Table") := ⟨RX3, TX3, 5, tyX3, rfl, by decide, w_f3, mm_in1 97 (by decide +kernel) rfl, tyX3_ok, nmX3, rfl, fun _ => rfl, rfl⟩
theorem g_X3_22 : mm_gf RX3 22 3 2 := ⟨RX3, TX3, 5, rfl, by decide, w_f3, mm_in1 98 (by decide +kernel) rfl⟩
theorem p_X3_22 : mm_pf RX3 22 3 2 true (.object "CableShip$Table") := ⟨RX3, TX3, 5, tyX3, rfl, by decide, w_f3, mm_in1 98 (by decide +kernel) rfl, tyX3_ok, nmX3, rfl, fun _ => rfl, rfl⟩
theorem g_X3_25 : mm_gf RX3 25 3 3 := ⟨RX3, TX3, 5, rfl, by decide, w_f3, mm_in1 100 (by decide +kernel) rfl⟩
theorem p_X3_25 : mm_pf RX3 25 3 3 false .int := ⟨RX3, TX3, 5, tyX3, rfl, by decide, w_f3, mm_in1 100 (by decide +kernel) rfl, tyX3_ok, nmX3, rfl, fun _ => rfl, rfl⟩
theorem g_X3_29 : mm_gf RX3 29 3 4 := ⟨RX3, TX3, 5, rfl, by decide, w_f3, mm_in1 102 (by decide +kernel) rfl⟩
theorem p_X3_29 : mm_pf RX3 29 3 4 false .int := ⟨RX3, TX3, 5, tyX3, rfl, by decide, w_f3, mm_in1 102 (by decide +kernel) rfl, tyX3_ok, nmX3, rfl, fun _ => rfl, rfl⟩
theorem g_X3_36 : mm_gf RX3 36 7 1 := ⟨RX7, TX7, 2, rfl, by decide, w_f7, mm_in1 88 (by decide +kernel) rfl⟩
theorem p_X3_36 : mm_pf RX3 36 7 1 false .int := ⟨RX7, TX7, 2, tyX7, rfl, by decide, w_f7, mm_in1 88 (by decide +kernel) rfl, tyX7_ok, nmX7, rfl, (fun z => nomatch z), rfl⟩
theorem g_X4_12 : mm_gf RX4 12 4 0 := ⟨RX4, TX4, 3, rfl, by decide, w_f4, mm_in1 200 (by decide +kernel) rfl⟩
theorem p_X4_12 : mm_pf RX4 12 4 0 true (.object "CableShip$Table") := ⟨RX4, TX4, 3, tyX4, rfl, by decide, w_f4, mm_in1 200 (by decide +kernel) rfl, tyX4_ok, nmX4, rfl, fun _ => rfl, rfl⟩
theorem g_X4_18 : mm_gf RX4 18 4 1 := ⟨RX4, TX4, 3, rfl, by decide, w_f4, mm_in1 202 (by decide +kernel) rfl⟩
theorem p_X4_18 : mm_pf RX4 18 4 1 true (.object "CableShip$Table") := ⟨RX4, TX4, 3, tyX4, rfl, by decide, w_f4, mm_in1 202 (by decide +kernel) rfl, tyX4_ok, nmX4, rfl, fun _ => rfl, rfl⟩
theorem g_X4_21 : mm_gf RX4 21 4 2 := ⟨RX4, TX4, 3, rfl, by decide, w_f4, mm_in1 204 (by decide +kernel) rfl⟩
theorem p_X4_21 : mm_pf RX4 21 4 2 true (.array .int) := ⟨RX4, TX4, 3, tyX4, rfl, by decide, w_f4, mm_in1 204 (by decide +kernel) rfl, tyX4_ok, nmX4, rfl, fun _ => rfl, rfl⟩
theorem g_X4_33 : mm_gf RX4 33 7 1 := ⟨RX7, TX7, 2, rfl, by decide, w_f7, mm_in1 86 (by decide +kernel) rfl⟩
theorem p_X4_33 : mm_pf RX4 33 7 1 false .int := ⟨RX7, TX7, 2, tyX7, rfl, by decide, w_f7, mm_in1 86 (by decide +kernel) rfl, tyX7_ok, nmX7, rfl, (fun z => nomatch z), rfl⟩
theorem g_X5_12 : mm_gf RX5 12 5 0 := ⟨RX5, TX5, 5, rfl, by decide, w_f5, mm_in1 135 (by decide +kernel) rfl⟩
theorem p_X5_12 : mm_pf RX5 12 5 0 true (.object "CableShip$Table") := ⟨RX5, TX5, 5, tyX5, rfl, by decide, w_f5, mm_in1 135 (by decide +kernel) rfl, tyX5_ok, nmX5, rfl, fun _ => rfl, rfl⟩
theorem g_X5_21 : mm_gf RX5 21 5 1 := ⟨RX5, TX5, 5, rfl, by decide, w_f5, mm_in1 137 (by decide +kernel) rfl⟩
theorem p_X5_21 : mm_pf RX5 21 5 1 true (.object "CableShip$Deeds") := ⟨RX5, TX5, 5, tyX5, rfl, by decide, w_f5, mm_in1 137 (by decide +kernel) rfl, tyX5_ok, nmX5, rfl, fun _ => rfl, rfl⟩
theorem g_X5_25 : mm_gf RX5 25 5 2 := ⟨RX5, TX5, 5, rfl, by decide, w_f5, mm_in1 138 (by decide +kernel) rfl⟩
theorem p_X5_25 : mm_pf RX5 25 5 2 true (.array .int) := ⟨RX5, TX5, 5, tyX5, rfl, by decide, w_f5, mm_in1 138 (by decide +kernel) rfl, tyX5_ok, nmX5, rfl, fun _ => rfl, rfl⟩
theorem g_X5_29 : mm_gf RX5 29 5 3 := ⟨RX5, TX5, 5, rfl, by decide, w_f5, mm_in1 139 (by decide +kernel) rfl⟩
theorem p_X5_29 : mm_pf RX5 29 5 3 false .int := ⟨RX5, TX5, 5, tyX5, rfl, by decide, w_f5, mm_in1 139 (by decide +kernel) rfl, tyX5_ok, nmX5, rfl, fun _ => rfl, rfl⟩
theorem g_X5_41 : mm_gf RX5 41 7 1 := ⟨RX7, TX7, 2, rfl, by decide, w_f7, mm_in1 89 (by decide +kernel) rfl⟩
theorem p_X5_41 : mm_pf RX5 41 7 1 false .int := ⟨RX7, TX7, 2, tyX7, rfl, by decide, w_f7, mm_in1 89 (by decide +kernel) rfl, tyX7_ok, nmX7, rfl, (fun z => nomatch z), rfl⟩
theorem g_X5_52 : mm_gf RX5 52 5 4 := ⟨RX5, TX5, 5, rfl, by decide, w_f5, mm_in1 141 (by decide +kernel) rfl⟩
theorem p_X5_52 : mm_pf RX5 52 5 4 false .int := ⟨RX5, TX5, 5, tyX5, rfl, by decide, w_f5, mm_in1 141 (by decide +kernel) rfl, tyX5_ok, nmX5, rfl, fun _ => rfl, rfl⟩
theorem g_X6_9 : mm_gf RX6 9 6 0 := ⟨RX6, TX6, 4, rfl, by decide, w_f6, mm_in1 37 (by decide +kernel) rfl⟩
theorem p_X6_9 : mm_pf RX6 9 6 0 true (.array .int) := ⟨RX6, TX6, 4, tyX6, rfl, by decide, w_f6, mm_in1 37 (by decide +kernel) rfl, tyX6_ok, nmX6, rfl, fun _ => rfl, rfl⟩
theorem g_X6_15 : mm_gf RX6 15 6 1 := ⟨RX6, TX6, 4, rfl, by decide, w_f6, mm_in1 38 (by decide +kernel) rfl⟩
theorem p_X6_15 : mm_pf RX6 15 6 1 true (.array .int) := ⟨RX6, TX6, 4, tyX6, rfl, by decide, w_f6, mm_in1 38 (by decide +kernel) rfl, tyX6_ok, nmX6, rfl, fun _ => rfl, rfl⟩
theorem g_X6_18 : mm_gf RX6 18 6 2 := ⟨RX6, TX6, 4, rfl, by decide, w_f6, mm_in1 39 (by decide +kernel) rfl⟩
theorem p_X6_18 : mm_pf RX6 18 6 2 true (.array .boolean) := ⟨RX6, TX6, 4, tyX6, rfl, by decide, w_f6, mm_in1 39 (by decide +kernel) rfl, tyX6_ok, nmX6, rfl, fun _ => rfl, rfl⟩
theorem g_X6_22 : mm_gf RX6 22 6 3 := ⟨RX6, TX6, 4, rfl, by decide, w_f6, mm_in1 40 (by decide +kernel) rfl⟩
theorem p_X6_22 : mm_pf RX6 22 6 3 true (.array .int) := ⟨RX6, TX6, 4, tyX6, rfl, by decide, w_f6, mm_in1 40 (by decide +kernel) rfl, tyX6_ok, nmX6, rfl, fun _ => rfl, rfl⟩
theorem g_X7_11 : mm_gf RX7 11 7 0 := ⟨RX7, TX7, 2, rfl, by decide, w_f7, mm_in1 83 (by decide +kernel) rfl⟩
theorem p_X7_11 : mm_pf RX7 11 7 0 false (.array .int) := ⟨RX7, TX7, 2, tyX7, rfl, by decide, w_f7, mm_in1 83 (by decide +kernel) rfl, tyX7_ok, nmX7, rfl, fun _ => rfl, rfl⟩
theorem g_X7_15 : mm_gf RX7 15 7 1 := ⟨RX7, TX7, 2, rfl, by decide, w_f7, mm_in1 85 (by decide +kernel) rfl⟩
theorem p_X7_15 : mm_pf RX7 15 7 1 false .int := ⟨RX7, TX7, 2, tyX7, rfl, by decide, w_f7, mm_in1 85 (by decide +kernel) rfl, tyX7_ok, nmX7, rfl, fun _ => rfl, rfl⟩
theorem g_X9_7 : mm_gf RX9 7 9 1 := ⟨RX9, TX9, 54, rfl, by decide, w_f9, mm_in5 47 (by decide +kernel) rfl⟩
theorem p_X9_7 : mm_pf RX9 7 9 1 true (.array .boolean) := ⟨RX9, TX9, 54, tyX9, rfl, by decide, w_f9, mm_in5 47 (by decide +kernel) rfl, tyX9_ok, nmX9, rfl, fun _ => rfl, rfl⟩
theorem g_X9_13 : mm_gf RX9 13 9 2 := ⟨RX9, TX9, 54, rfl, by decide, w_f9, mm_in5 48 (by decide +kernel) rfl⟩
theorem p_X9_13 : mm_pf RX9 13 9 2 true (.array .int) := ⟨RX9, TX9, 54, tyX9, rfl, by decide, w_f9, mm_in5 48 (by decide +kernel) rfl, tyX9_ok, nmX9, rfl, fun _ => rfl, rfl⟩
theorem g_X9_17 : mm_gf RX9 17 9 3 := ⟨RX9, TX9, 54, rfl, by decide, w_f9, mm_in5 49 (by decide +kernel) rfl⟩
theorem p_X9_17 : mm_pf RX9 17 9 3 true (.array .int) := ⟨RX9, TX9, 54, tyX9, rfl, by decide, w_f9, mm_in5 49 (by decide +kernel) rfl, tyX9_ok, nmX9, rfl, fun _ => rfl, rfl⟩
theorem g_X9_20 : mm_gf RX9 20 9 4 := ⟨RX9, TX9, 54, rfl, by decide, w_f9, mm_in5 50 (by decide +kernel) rfl⟩
theorem p_X9_20 : mm_pf RX9 20 9 4 true (.array .boolean) := ⟨RX9, TX9, 54, tyX9, rfl, by decide, w_f9, mm_in5 50 (by decide +kernel) rfl, tyX9_ok, nmX9, rfl, fun _ => rfl, rfl⟩
theorem g_X9_23 : mm_gf RX9 23 9 5 := ⟨RX9, TX9, 54, rfl, by decide, w_f9, mm_in5 51 (by decide +kernel) rfl⟩
theorem p_X9_23 : mm_pf RX9 23 9 5 true (.array .int) := ⟨RX9, TX9, 54, tyX9, rfl, by decide, w_f9, mm_in5 51 (by decide +kernel) rfl, tyX9_ok, nmX9, rfl, fun _ => rfl, rfl⟩
theorem g_X9_26 : mm_gf RX9 26 9 11 := ⟨RX9, TX9, 54, rfl, by decide, w_f9, mm_in5 57 (by decide +kernel) rfl⟩
theorem p_X9_26 : mm_pf RX9 26 9 11 true (.array .int) := ⟨RX9, TX9, 54, tyX9, rfl, by decide, w_f9, mm_in5 57 (by decide +kernel) rfl, tyX9_ok, nmX9, rfl, fun _ => rfl, rfl⟩
theorem g_X9_29 : mm_gf RX9 29 9 13 := ⟨RX9, TX9, 54, rfl, by decide, w_f9, mm_in5 59 (by decide +kernel) rfl⟩
theorem p_X9_29 : mm_pf RX9 29 9 13 true (.array .int) := ⟨RX9, TX9, 54, tyX9, rfl, by decide, w_f9, mm_in5 59 (by decide +kernel) rfl, tyX9_ok, nmX9, rfl, fun _ => rfl, rfl⟩
theorem g_X9_32 : mm_gf RX9 32 9 14 := ⟨RX9, TX9, 54, rfl, by decide, w_f9, mm_in5 60 (by decide +kernel) rfl⟩
theorem p_X9_32 : mm_pf RX9 32 9 14 true (.array .int) := ⟨RX9, TX9, 54, tyX9, rfl, by decide, w_f9, mm_in5 60 (by decide +kernel) rfl, tyX9_ok, nmX9, rfl, fun _ => rfl, rfl⟩
theorem g_X9_35 : mm_gf RX9 35 9 15 := ⟨RX9, TX9, 54, rfl, by decide, w_f9, mm_in5 61 (by decide +kernel) rfl⟩
theorem p_X9_35 : mm_pf RX9 35 9 15 true (.array .int) := ⟨RX9, TX9, 54, tyX9, rfl, by decide, w_f9, mm_in5 61 (by decide +kernel) rfl, tyX9_ok, nmX9, rfl, fun _ => rfl, rfl⟩
theorem g_X9_38 : mm_gf RX9 38 9 16 := ⟨RX9, TX9, 54, rfl, by decide, w_f9, mm_in5 62 (by decide +kernel) rfl⟩
theorem p_X9_38 : mm_pf RX9 38 9 16 true (.array .int) := ⟨RX9, TX9, 54, tyX9, rfl, by decide, w_f9, mm_in5 62 (by decide +kernel) rfl, tyX9_ok, nmX9, rfl, fun _ => rfl, rfl⟩
theorem g_X9_41 : mm_gf RX9 41 9 18 := ⟨RX9, TX9, 54, rfl, by decide, w_f9, mm_in5 64 (by decide +kernel) rfl⟩
theorem p_X9_41 : mm_pf RX9 41 9 18 true (.array .int) := ⟨RX9, TX9, 54, tyX9, rfl, by decide, w_f9, mm_in5 64 (by decide +kernel) rfl, tyX9_ok, nmX9, rfl, fun _ => rfl, rfl⟩
theorem g_X9_44 : mm_gf RX9 44 9 19 := ⟨RX9, TX9, 54, rfl, by decide, w_f9, mm_in5 65 (by decide +kernel) rfl⟩
theorem p_X9_44 : mm_pf RX9 44 9 19 true (.array .int) := ⟨RX9, TX9, 54, tyX9, rfl, by decide, w_f9, mm_in5 65 (by decide +kernel) rfl, tyX9_ok, nmX9, rfl, fun _ => rfl, rfl⟩
theorem g_X9_47 : mm_gf RX9 47 9 20 := ⟨RX9, TX9, 54, rfl, by decide, w_f9, mm_in5 66 (by decide +kernel) rfl⟩
theorem p_X9_47 : mm_pf RX9 47 9 20 true (.array .int) := ⟨RX9, TX9, 54, tyX9, rfl, by decide, w_f9, mm_in5 66 (by decide +kernel) rfl, tyX9_ok, nmX9, rfl, fun _ => rfl, rfl⟩
theorem g_X9_50 : mm_gf RX9 50 9 22 := ⟨RX9, TX9, 54, rfl, by decide, w_f9, mm_in5 68 (by decide +kernel) rfl⟩
theorem p_X9_50 : mm_pf RX9 50 9 22 true (.array .int) := ⟨RX9, TX9, 54, tyX9, rfl, by decide, w_f9, mm_in5 68 (by decide +kernel) rfl, tyX9_ok, nmX9, rfl, fun _ => rfl, rfl⟩
theorem g_X9_53 : mm_gf RX9 53 9 23 := ⟨RX9, TX9, 54, rfl, by decide, w_f9, mm_in5 69 (by decide +kernel) rfl⟩
theorem p_X9_53 : mm_pf RX9 53 9 23 true (.array .int) := ⟨RX9, TX9, 54, tyX9, rfl, by decide, w_f9, mm_in5 69 (by decide +kernel) rfl, tyX9_ok, nmX9, rfl, fun _ => rfl, rfl⟩
theorem g_X9_56 : mm_gf RX9 56 9 24 := ⟨RX9, TX9, 54, rfl, by decide, w_f9, mm_in5 70 (by decide +kernel) rfl⟩
theorem p_X9_56 : mm_pf RX9 56 9 24 true (.array .int) := ⟨RX9, TX9, 54, tyX9, rfl, by decide, w_f9, mm_in5 70 (by decide +kernel) rfl, tyX9_ok, nmX9, rfl, fun _ => rfl, rfl⟩
theorem g_X9_59 : mm_gf RX9 59 9 25 := ⟨RX9, TX9, 54, rfl, by decide, w_f9, mm_in5 71 (by decide +kernel) rfl⟩
theorem p_X9_59 : mm_pf RX9 59 9 25 true (.array .int) := ⟨RX9, TX9, 54, tyX9, rfl, by decide, w_f9, mm_in5 71 (by decide +kernel) rfl, tyX9_ok, nmX9, rfl, fun _ => rfl, rfl⟩
theorem g_X9_62 : mm_gf RX9 62 9 27 := ⟨RX9, TX9, 54, rfl, by decide, w_f9, mm_in5 73 (by decide +kernel) rfl⟩
theorem p_X9_62 : mm_pf RX9 62 9 27 true (.array .int) := ⟨RX9, TX9, 54, tyX9, rfl, by decide, w_f9, mm_in5 73 (by decide +kernel) rfl, tyX9_ok, nmX9, rfl, fun _ => rfl, rfl⟩
theorem g_X9_65 : mm_gf RX9 65 9 28 := ⟨RX9, TX9, 54, rfl, by decide, w_f9, mm_in5 74 (by decide +kernel) rfl⟩
theorem p_X9_65 : mm_pf RX9 65 9 28 true (.array .int) := ⟨RX9, TX9, 54, tyX9, rfl, by decide, w_f9, mm_in5 74 (by decide +kernel) rfl, tyX9_ok, nmX9, rfl, fun _ => rfl, rfl⟩
theorem g_X9_68 : mm_gf RX9 68 9 29 := ⟨RX9, TX9, 54, rfl, by decide, w_f9, mm_in5 75 (by decide +kernel) rfl⟩
theorem p_X9_68 : mm_pf RX9 68 9 29 true (.array .int) := ⟨RX9, TX9, 54, tyX9, rfl, by decide, w_f9, mm_in5 75 (by decide +kernel) rfl, tyX9_ok, nmX9, rfl, fun _ => rfl, rfl⟩
theorem g_X9_71 : mm_gf RX9 71 9 30 := ⟨RX9, TX9, 54, rfl, by decide, w_f9, mm_in5 76 (by decide +kernel) rfl⟩
theorem p_X9_71 : mm_pf RX9 71 9 30 true (.array .int) := ⟨RX9, TX9, 54, tyX9, rfl, by decide, w_f9, mm_in5 76 (by decide +kernel) rfl, tyX9_ok, nmX9, rfl, fun _ => rfl, rfl⟩
theorem g_X9_74 : mm_gf RX9 74 9 32 := ⟨RX9, TX9, 54, rfl, by decide, w_f9, mm_in5 78 (by decide +kernel) rfl⟩
theorem p_X9_74 : mm_pf RX9 74 9 32 true (.array .int) := ⟨RX9, TX9, 54, tyX9, rfl, by decide, w_f9, mm_in5 78 (by decide +kernel) rfl, tyX9_ok, nmX9, rfl, fun _ => rfl, rfl⟩
theorem g_X9_77 : mm_gf RX9 77 9 39 := ⟨RX9, TX9, 54, rfl, by decide, w_f9, mm_in5 85 (by decide +kernel) rfl⟩
theorem p_X9_77 : mm_pf RX9 77 9 39 true (.array .int) := ⟨RX9, TX9, 54, tyX9, rfl, by decide, w_f9, mm_in5 85 (by decide +kernel) rfl, tyX9_ok, nmX9, rfl, fun _ => rfl, rfl⟩
theorem g_X9_80 : mm_gf RX9 80 9 40 := ⟨RX9, TX9, 54, rfl, by decide, w_f9, mm_in5 86 (by decide +kernel) rfl⟩
theorem p_X9_80 : mm_pf RX9 80 9 40 true (.array .int) := ⟨RX9, TX9, 54, tyX9, rfl, by decide, w_f9, mm_in5 86 (by decide +kernel) rfl, tyX9_ok, nmX9, rfl, fun _ => rfl, rfl⟩
theorem g_X9_83 : mm_gf RX9 83 9 41 := ⟨RX9, TX9, 54, rfl, by decide, w_f9, mm_in5 87 (by decide +kernel) rfl⟩
theorem p_X9_83 : mm_pf RX9 83 9 41 true (.array .int) := ⟨RX9, TX9, 54, tyX9, rfl, by decide, w_f9, mm_in5 87 (by decide +kernel) rfl, tyX9_ok, nmX9, rfl, fun _ => rfl, rfl⟩
theorem g_X9_86 : mm_gf RX9 86 9 42 := ⟨RX9, TX9, 54, rfl, by decide, w_f9, mm_in5 88 (by decide +kernel) rfl⟩
theorem p_X9_86 : mm_pf RX9 86 9 42 true (.array .int) := ⟨RX9, TX9, 54, tyX9, rfl, by decide, w_f9, mm_in5 88 (by decide +kernel) rfl, tyX9_ok, nmX9, rfl, fun _ => rfl, rfl⟩
theorem g_X9_89 : mm_gf RX9 89 9 43 := ⟨RX9, TX9, 54, rfl, by decide, w_f9, mm_in5 89 (by decide +kernel) rfl⟩
theorem p_X9_89 : mm_pf RX9 89 9 43 false .int := ⟨RX9, TX9, 54, tyX9, rfl, by decide, w_f9, mm_in5 89 (by decide +kernel) rfl, tyX9_ok, nmX9, rfl, fun _ => rfl, rfl⟩
theorem g_X9_93 : mm_gf RX9 93 9 44 := ⟨RX9, TX9, 54, rfl, by decide, w_f9, mm_in5 90 (by decide +kernel) rfl⟩
theorem p_X9_93 : mm_pf RX9 93 9 44 true (.array .int) := ⟨RX9, TX9, 54, tyX9, rfl, by decide, w_f9, mm_in5 90 (by decide +kernel) rfl, tyX9_ok, nmX9, rfl, fun _ => rfl, rfl⟩
theorem g_X9_96 : mm_gf RX9 96 9 45 := ⟨RX9, TX9, 54, rfl, by decide, w_f9, mm_in5 91 (by decide +kernel) rfl⟩
theorem p_X9_96 : mm_pf RX9 96 9 45 true (.array .int) := ⟨RX9, TX9, 54, tyX9, rfl, by decide, w_f9, mm_in5 91 (by decide +kernel) rfl, tyX9_ok, nmX9, rfl, fun _ => rfl, rfl⟩
theorem g_X9_99 : mm_gf RX9 99 9 46 := ⟨RX9, TX9, 54, rfl, by decide, w_f9, mm_in5 92 (by decide +kernel) rfl⟩
theorem p_X9_99 : mm_pf RX9 99 9 46 true (.array .int) := ⟨RX9, TX9, 54, tyX9, rfl, by decide, w_f9, mm_in5 92 (by decide +kernel) rfl, tyX9_ok, nmX9, rfl, fun _ => rfl, rfl⟩
theorem g_X9_102 : mm_gf RX9 102 9 47 := ⟨RX9, TX9, 54, rfl, by decide, w_f9, mm_in5 93 (by decide +kernel) rfl⟩
theorem p_X9_102 : mm_pf RX9 102 9 47 true (.array .boolean) := ⟨RX9, TX9, 54, tyX9, rfl, by decide, w_f9, mm_in5 93 (by decide +kernel) rfl, tyX9_ok, nmX9, rfl, fun _ => rfl, rfl⟩
theorem g_X9_105 : mm_gf RX9 105 9 49 := ⟨RX9, TX9, 54, rfl, by decide, w_f9, mm_in5 95 (by decide +kernel) rfl⟩
theorem p_X9_105 : mm_pf RX9 105 9 49 true (.array .int) := ⟨RX9, TX9, 54, tyX9, rfl, by decide, w_f9, mm_in5 95 (by decide +kernel) rfl, tyX9_ok, nmX9, rfl, fun _ => rfl, rfl⟩
theorem g_X9_108 : mm_gf RX9 108 9 50 := ⟨RX9, TX9, 54, rfl, by decide, w_f9, mm_in5 96 (by decide +kernel) rfl⟩
theorem p_X9_108 : mm_pf RX9 108 9 50 true (.array .int) := ⟨RX9, TX9, 54, tyX9, rfl, by decide, w_f9, mm_in5 96 (by decide +kernel) rfl, tyX9_ok, nmX9, rfl, fun _ => rfl, rfl⟩
theorem g_X9_111 : mm_gf RX9 111 9 51 := ⟨RX9, TX9, 54, rfl, by decide, w_f9, mm_in5 97 (by decide +kernel) rfl⟩
theorem p_X9_111 : mm_pf RX9 111 9 51 true (.array .int) := ⟨RX9, TX9, 54, tyX9, rfl, by decide, w_f9, mm_in5 97 (by decide +kernel) rfl, tyX9_ok, nmX9, rfl, fun _ => rfl, rfl⟩
theorem g_X9_114 : mm_gf RX9 114 9 52 := ⟨RX9, TX9, 54, rfl, by decide, w_f9, mm_in5 98 (by decide +kernel) rfl⟩
theorem p_X9_114 : mm_pf RX9 114 9 52 true (.array .int) := ⟨RX9, TX9, 54, tyX9, rfl, by decide, w_f9, mm_in5 98 (by decide +kernel) rfl, tyX9_ok, nmX9, rfl, fun _ => rfl, rfl⟩
theorem g_X9_117 : mm_gf RX9 117 9 53 := ⟨RX9, TX9, 54, rfl, by decide, w_f9, mm_in5 99 (by decide +kernel) rfl⟩
theorem p_X9_117 : mm_pf RX9 117 9 53 true (.array .int) := ⟨RX9, TX9, 54, tyX9, rfl, by decide, w_f9, mm_in5 99 (by decide +kernel) rfl, tyX9_ok, nmX9, rfl, fun _ => rfl, rfl⟩
theorem g_X9_120 : mm_gf RX9 120 9 0 := ⟨RX9, TX9, 54, rfl, by decide, w_f9, mm_in5 46 (by decide +kernel) rfl⟩
theorem p_X9_120 : mm_pf RX9 120 9 0 false .int := ⟨RX9, TX9, 54, tyX9, rfl, by decide, w_f9, mm_in5 46 (by decide +kernel) rfl, tyX9_ok, nmX9, rfl, fun _ => rfl, rfl⟩
theorem g_X9_135 : mm_gf RX9 135 9 31 := ⟨RX9, TX9, 54, rfl, by decide, w_f9, mm_in5 77 (by decide +kernel) rfl⟩
theorem p_X9_135 : mm_pf RX9 135 9 31 false .int := ⟨RX9, TX9, 54, tyX9, rfl, by decide, w_f9, mm_in5 77 (by decide +kernel) rfl, tyX9_ok, nmX9, rfl, fun _ => rfl, rfl⟩
theorem g_X9_139 : mm_gf RX9 139 9 6 := ⟨RX9, TX9, 54, rfl, by decide, w_f9, mm_in5 52 (by decide +kernel) rfl⟩
theorem p_X9_139 : mm_pf RX9 139 9 6 false .int := ⟨RX9, TX9, 54, tyX9, rfl, by decide, w_f9, mm_in5 52 (by decide +kernel) rfl, tyX9_ok, nmX9, rfl, fun _ => rfl, rfl⟩
theorem g_X9_142 : mm_gf RX9 142 9 7 := ⟨RX9, TX9, 54, rfl, by decide, w_f9, mm_in5 53 (by decide +kernel) rfl⟩
theorem p_X9_142 : mm_pf RX9 142 9 7 false .int := ⟨RX9, TX9, 54, tyX9, rfl, by decide, w_f9, mm_in5 53 (by decide +kernel) rfl, tyX9_ok, nmX9, rfl, fun _ => rfl, rfl⟩
theorem g_X9_146 : mm_gf RX9 146 9 9 := ⟨RX9, TX9, 54, rfl, by decide, w_f9, mm_in5 55 (by decide +kernel) rfl⟩
theorem p_X9_146 : mm_pf RX9 146 9 9 false .int := ⟨RX9, TX9, 54, tyX9, rfl, by decide, w_f9, mm_in5 55 (by decide +kernel) rfl, tyX9_ok, nmX9, rfl, fun _ => rfl, rfl⟩
theorem g_X9_153 : mm_gf RX9 153 9 34 := ⟨RX9, TX9, 54, rfl, by decide, w_f9, mm_in5 80 (by decide +kernel) rfl⟩
theorem p_X9_153 : mm_pf RX9 153 9 34 false .boolean := ⟨RX9, TX9, 54, tyX9, rfl, by decide, w_f9, mm_in5 80 (by decide +kernel) rfl, tyX9_ok, nmX9, rfl, fun _ => rfl, rfl⟩
theorem g_X9_164 : mm_gf RX9 164 9 35 := ⟨RX9, TX9, 54, rfl, by decide, w_f9, mm_in5 81 (by decide +kernel) rfl⟩
theorem p_X9_164 : mm_pf RX9 164 9 35 false .int := ⟨RX9, TX9, 54, tyX9, rfl, by decide, w_f9, mm_in5 81 (by decide +kernel) rfl, tyX9_ok, nmX9, rfl, fun _ => rfl, rfl⟩
theorem g_X9_167 : mm_gf RX9 167 9 33 := ⟨RX9, TX9, 54, rfl, by decide, w_f9, mm_in5 79 (by decide +kernel) rfl⟩
theorem p_X9_167 : mm_pf RX9 167 9 33 false .long := ⟨RX9, TX9, 54, tyX9, rfl, by decide, w_f9, mm_in5 79 (by decide +kernel) rfl, tyX9_ok, nmX9, rfl, fun _ => rfl, rfl⟩
theorem g_X9_171 : mm_gf RX9 171 9 21 := ⟨RX9, TX9, 54, rfl, by decide, w_f9, mm_in5 67 (by decide +kernel) rfl⟩
theorem p_X9_171 : mm_pf RX9 171 9 21 false .int := ⟨RX9, TX9, 54, tyX9, rfl, by decide, w_f9, mm_in5 67 (by decide +kernel) rfl, tyX9_ok, nmX9, rfl, fun _ => rfl, rfl⟩
theorem g_X9_177 : mm_gf RX9 177 9 38 := ⟨RX9, TX9, 54, rfl, by decide, w_f9, mm_in5 84 (by decide +kernel) rfl⟩
theorem p_X9_177 : mm_pf RX9 177 9 38 false .int := ⟨RX9, TX9, 54, tyX9, rfl, by decide, w_f9, mm_in5 84 (by decide +kernel) rfl, tyX9_ok, nmX9, rfl, fun _ => rfl, rfl⟩
theorem g_X9_183 : mm_gf RX9 183 9 8 := ⟨RX9, TX9, 54, rfl, by decide, w_f9, mm_in5 54 (by decide +kernel) rfl⟩
theorem p_X9_183 : mm_pf RX9 183 9 8 false .int := ⟨RX9, TX9, 54, tyX9, rfl, by decide, w_f9, mm_in5 54 (by decide +kernel) rfl, tyX9_ok, nmX9, rfl, fun _ => rfl, rfl⟩
theorem g_X9_187 : mm_gf RX9 187 9 10 := ⟨RX9, TX9, 54, rfl, by decide, w_f9, mm_in5 56 (by decide +kernel) rfl⟩
theorem p_X9_187 : mm_pf RX9 187 9 10 false .int := ⟨RX9, TX9, 54, tyX9, rfl, by decide, w_f9, mm_in5 56 (by decide +kernel) rfl, tyX9_ok, nmX9, rfl, fun _ => rfl, rfl⟩
theorem g_X9_190 : mm_gf RX9 190 9 12 := ⟨RX9, TX9, 54, rfl, by decide, w_f9, mm_in5 58 (by decide +kernel) rfl⟩
theorem p_X9_190 : mm_pf RX9 190 9 12 false .long := ⟨RX9, TX9, 54, tyX9, rfl, by decide, w_f9, mm_in5 58 (by decide +kernel) rfl, tyX9_ok, nmX9, rfl, fun _ => rfl, rfl⟩
theorem g_X9_193 : mm_gf RX9 193 9 17 := ⟨RX9, TX9, 54, rfl, by decide, w_f9, mm_in5 63 (by decide +kernel) rfl⟩
theorem p_X9_193 : mm_pf RX9 193 9 17 false .int := ⟨RX9, TX9, 54, tyX9, rfl, by decide, w_f9, mm_in5 63 (by decide +kernel) rfl, tyX9_ok, nmX9, rfl, fun _ => rfl, rfl⟩
theorem g_X9_238 : mm_gf RX9 238 9 36 := ⟨RX9, TX9, 54, rfl, by decide, w_f9, mm_in5 82 (by decide +kernel) rfl⟩
theorem p_X9_238 : mm_pf RX9 238 9 36 false .int := ⟨RX9, TX9, 54, tyX9, rfl, by decide, w_f9, mm_in5 82 (by decide +kernel) rfl, tyX9_ok, nmX9, rfl, fun _ => rfl, rfl⟩
theorem g_X9_241 : mm_gf RX9 241 9 37 := ⟨RX9, TX9, 54, rfl, by decide, w_f9, mm_in5 83 (by decide +kernel) rfl⟩
theorem p_X9_241 : mm_pf RX9 241 9 37 false .int := ⟨RX9, TX9, 54, tyX9, rfl, by decide, w_f9, mm_in5 83 (by decide +kernel) rfl, tyX9_ok, nmX9, rfl, fun _ => rfl, rfl⟩
theorem g_X9_269 : mm_gf RX9 269 9 26 := ⟨RX9, TX9, 54, rfl, by decide, w_f9, mm_in5 72 (by decide +kernel) rfl⟩
theorem p_X9_269 : mm_pf RX9 269 9 26 false .int := ⟨RX9, TX9, 54, tyX9, rfl, by decide, w_f9, mm_in5 72 (by decide +kernel) rfl, tyX9_ok, nmX9, rfl, fun _ => rfl, rfl⟩
theorem g_X9_286 : mm_gf RX9 286 9 48 := ⟨RX9, TX9, 54, rfl, by decide, w_f9, mm_in5 94 (by decide +kernel) rfl⟩
theorem p_X9_286 : mm_pf RX9 286 9 48 false .int := ⟨RX9, TX9, 54, tyX9, rfl, by decide, w_f9, mm_in5 94 (by decide +kernel) rfl, tyX9_ok, nmX9, rfl, fun _ => rfl, rfl⟩
theorem n_L_8 : mm_nw RL 8 8 12 [.null, .null, .null, .null, .null, .null, .int 0, .int 0, .int 0, .int 0, .int 0, .int 0] := ⟨RX8, TX8, tyX8, rfl, w_f8, tyX8_ok, mm_in1 20 (by decide +kernel) rfl, mm_in1 21 (by decide +kernel) rfl, mm_in1 1 (by decide +kernel) rfl, by decide, by decide⟩
theorem n_X8_7 : mm_nw RX8 7 6 4 [.null, .null, .null, .null] := ⟨RX6, TX6, tyX6, rfl, w_f6, tyX6_ok, mm_in1 28 (by decide +kernel) rfl, mm_in1 29 (by decide +kernel) rfl, mm_in1 2 (by decide +kernel) rfl, by decide, by decide⟩
theorem n_X8_16 : mm_nw RX8 16 0 3 [.int 0, .int 0, .int 0] := ⟨RX0, TX0, tyX0, rfl, w_f0, tyX0_ok, mm_in1 52 (by decide +kernel) rfl, mm_in1 53 (by decide +kernel) rfl, mm_in1 4 (by decide +kernel) rfl, by decide, by decide⟩
theorem n_X8_23 : mm_nw RX8 23 3 5 [.null, .null, .null, .int 0, .int 0] := ⟨RX3, TX3, tyX3, rfl, w_f3, tyX3_ok, mm_in1 71 (by decide +kernel) rfl, mm_in1 72 (by decide +kernel) rfl, mm_in1 5 (by decide +kernel) rfl, by decide, by decide⟩
theorem n_X3_15 : mm_nw RX3 15 7 2 [.null, .int 0] := ⟨RX7, TX7, tyX7, rfl, w_f7, tyX7_ok, mm_in1 77 (by decide +kernel) rfl, mm_in1 78 (by decide +kernel) rfl, mm_in1 6 (by decide +kernel) rfl, by decide, by decide⟩
theorem n_X8_30 : mm_nw RX8 30 5 5 [.null, .null, .null, .int 0, .int 0] := ⟨RX5, TX5, tyX5, rfl, w_f5, tyX5_ok, mm_in1 115 (by decide +kernel) rfl, mm_in1 116 (by decide +kernel) rfl, mm_in1 7 (by decide +kernel) rfl, by decide, by decide⟩
theorem n_X5_9 : mm_nw RX5 9 7 2 [.null, .int 0] := ⟨RX7, TX7, tyX7, rfl, w_f7, tyX7_ok, mm_in1 121 (by decide +kernel) rfl, mm_in1 78 (by decide +kernel) rfl, mm_in1 6 (by decide +kernel) rfl, by decide, by decide⟩
theorem n_X5_18 : mm_nw RX5 18 1 1 [.null] := ⟨RX1, TX1, tyX1, rfl, w_f1, tyX1_ok, mm_in1 123 (by decide +kernel) rfl, mm_in1 124 (by decide +kernel) rfl, mm_in1 8 (by decide +kernel) rfl, by decide, by decide⟩
theorem n_X1_9 : mm_nw RX1 9 7 2 [.null, .int 0] := ⟨RX7, TX7, tyX7, rfl, w_f7, tyX7_ok, mm_in1 129 (by decide +kernel) rfl, mm_in1 78 (by decide +kernel) rfl, mm_in1 6 (by decide +kernel) rfl, by decide, by decide⟩
theorem n_X8_37 : mm_nw RX8 37 2 1 [.null] := ⟨RX2, TX2, tyX2, rfl, w_f2, tyX2_ok, mm_in1 154 (by decide +kernel) rfl, mm_in1 155 (by decide +kernel) rfl, mm_in1 9 (by decide +kernel) rfl, by decide, by decide⟩
theorem n_X2_9 : mm_nw RX2 9 7 2 [.null, .int 0] := ⟨RX7, TX7, tyX7, rfl, w_f7, tyX7_ok, mm_in1 160 (by decide +kernel) rfl, mm_in1 78 (by decide +kernel) rfl, mm_in1 6 (by decide +kernel) rfl, by decide, by decide⟩
theorem n_X8_44 : mm_nw RX8 44 4 3 [.null, .null, .null] := ⟨RX4, TX4, tyX4, rfl, w_f4, tyX4_ok, mm_in1 166 (by decide +kernel) rfl, mm_in1 167 (by decide +kernel) rfl, mm_in1 10 (by decide +kernel) rfl, by decide, by decide⟩
theorem n_X4_9 : mm_nw RX4 9 7 2 [.null, .int 0] := ⟨RX7, TX7, tyX7, rfl, w_f7, tyX7_ok, mm_in1 172 (by decide +kernel) rfl, mm_in1 78 (by decide +kernel) rfl, mm_in1 6 (by decide +kernel) rfl, by decide, by decide⟩
theorem k_X7_23 : Cond.constant RX7 23 (1000000 : Int32) ∈ mm_W := mm_in1 182 (by decide +kernel) rfl
theorem k_X8_92 : Cond.constant RX8 92 (65536 : Int32) ∈ mm_W := mm_in3 92 (by decide +kernel) rfl
theorem k_X0_16 : Cond.constant RX0 16 (65537 : Int32) ∈ mm_W := mm_in3 108 (by decide +kernel) rfl
theorem k_X8_151 : Cond.constant RX8 151 (90000 : Int32) ∈ mm_W := mm_in3 153 (by decide +kernel) rfl
theorem k_X5_97 : Cond.constant RX5 97 (100000 : Int32) ∈ mm_W := mm_in3 223 (by decide +kernel) rfl
theorem k_X1_30 : Cond.constant RX1 30 (100000 : Int32) ∈ mm_W := mm_in5 28 (by decide +kernel) rfl
theorem n_L_105 : mm_nw RL 105 9 54 [.int 0, .null, .null, .null, .null, .null, .int 0, .int 0, .int 0, .int 0, .int 0, .null, .long 0, .null, .null, .null, .null, .int 0, .null, .null, .null, .int 0, .null, .null, .null, .null, .int 0, .null, .null, .null, .null, .int 0, .null, .long 0, .int 0, .int 0, .int 0, .int 0, .int 0, .null, .null, .null, .null, .int 0, .null, .null, .null, .null, .int 0, .null, .null, .null, .null, .null] := ⟨RX9, TX9, tyX9, rfl, w_f9, tyX9_ok, mm_in5 40 (by decide +kernel) rfl, mm_in5 41 (by decide +kernel) rfl, mm_in1 13 (by decide +kernel) rfl, by decide, by decide⟩
theorem k_X9_138 : Cond.constant RX9 138 (65536 : Int32) ∈ mm_W := mm_in5 239 (by decide +kernel) rfl
theorem k_X9_145 : Cond.constant RX9 145 (65537 : Int32) ∈ mm_W := mm_in6 4 (by decide +kernel) rfl
theorem k_X9_186 : Cond.constant RX9 186 (90000 : Int32) ∈ mm_W := mm_in6 29 (by decide +kernel) rfl
theorem k_X9_310 : Cond.constant RX9 310 (100000 : Int32) ∈ mm_W := mm_in7 29 (by decide +kernel) rfl
theorem a_int : Cond.arrayClass .int ∈ mm_W := mm_in1 50 (by decide +kernel) rfl
theorem a_boolean : Cond.arrayClass .boolean ∈ mm_W := mm_in1 51 (by decide +kernel) rfl
theorem a_long : Cond.arrayClass .long ∈ mm_W := mm_in7 46 (by decide +kernel) rfl
