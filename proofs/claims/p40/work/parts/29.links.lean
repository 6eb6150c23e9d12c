theorem w_f0 : ∀ w ∈ u_ws RX0 TX0 3, w ∈ mm_W := fun w hw => List.mem_filter.mpr ⟨mm_f0 w hw, List.all_eq_true.mp (show (u_ws RX0 TX0 3).all goodWord = true by decide +kernel) w hw⟩
theorem w_f1 : ∀ w ∈ u_ws RX1 TX1 1, w ∈ mm_W := fun w hw => List.mem_filter.mpr ⟨mm_f1 w hw, List.all_eq_true.mp (show (u_ws RX1 TX1 1).all goodWord = true by decide +kernel) w hw⟩
theorem w_f2 : ∀ w ∈ u_ws RX2 TX2 1, w ∈ mm_W := fun w hw => List.mem_filter.mpr ⟨mm_f2 w hw, List.all_eq_true.mp (show (u_ws RX2 TX2 1).all goodWord = true by decide +kernel) w hw⟩
theorem w_f3 : ∀ w ∈ u_ws RX3 TX3 5, w ∈ mm_W := fun w hw => List.mem_filter.mpr ⟨mm_f3 w hw, List.all_eq_true.mp (show (u_ws RX3 TX3 5).all goodWord = true by decide +kernel) w hw⟩
theorem w_f4 : ∀ w ∈ u_ws RX4 TX4 3, w ∈ mm_W := fun w hw => List.mem_filter.mpr ⟨mm_f4 w hw, List.all_eq_true.mp (show (u_ws RX4 TX4 3).all goodWord = true by decide +kernel) w hw⟩
theorem w_f5 : ∀ w ∈ u_ws RX5 TX5 5, w ∈ mm_W := fun w hw => List.mem_filter.mpr ⟨mm_f5 w hw, List.all_eq_true.mp (show (u_ws RX5 TX5 5).all goodWord = true by decide +kernel) w hw⟩
theorem w_f6 : ∀ w ∈ u_ws RX6 TX6 4, w ∈ mm_W := fun w hw => List.mem_filter.mpr ⟨mm_f6 w hw, List.all_eq_true.mp (show (u_ws RX6 TX6 4).all goodWord = true by decide +kernel) w hw⟩
theorem w_f7 : ∀ w ∈ u_ws RX7 TX7 2, w ∈ mm_W := fun w hw => List.mem_filter.mpr ⟨mm_f7 w hw, List.all_eq_true.mp (show (u_ws RX7 TX7 2).all goodWord = true by decide +kernel) w hw⟩
theorem w_f8 : ∀ w ∈ u_ws RX8 TX8 12, w ∈ mm_W := fun w hw => List.mem_filter.mpr ⟨mm_f8 w hw, List.all_eq_true.mp (show (u_ws RX8 TX8 12).all goodWord = true by decide +kernel) w hw⟩
theorem l_X8_1 : Cond.methodLink RX8 1 Lib.objectInit ∈ mm_W ∧ Cond.instanceMethod Lib.objectInit ∈ mm_W ∧ Cond.code Lib.objectInit ⟨#[0xb1]⟩ 1 none ∈ mm_W := ⟨mm_in1 24 (by decide +kernel) rfl, mm_in1 25 (by decide +kernel) rfl, mm_in1 26 (by decide +kernel) rfl⟩
theorem l_X8_9 : Cond.methodLink RX8 9 yX6_init ∈ mm_W := mm_in1 29 (by decide +kernel) rfl
theorem l_X8_18 : Cond.methodLinkNest RX8 18 yX0_init "CableShip" ∈ mm_N := mm_inN1 53 (by decide +kernel) rfl
theorem l_X8_25 : Cond.methodLinkNest RX8 25 yX3_init "CableShip" ∈ mm_N := mm_inN1 72 (by decide +kernel) rfl
theorem l_X8_32 : Cond.methodLinkNest RX8 32 yX5_init "CableShip" ∈ mm_N := mm_inN1 115 (by decide +kernel) rfl
theorem l_X8_39 : Cond.methodLinkNest RX8 39 yX2_init "CableShip" ∈ mm_N := mm_inN1 154 (by decide +kernel) rfl
theorem l_X8_46 : Cond.methodLink RX8 46 yX4_init ∈ mm_W := mm_in1 166 (by decide +kernel) rfl
theorem l_X8_51 : Cond.methodLink RX8 51 yX8_isCell ∈ mm_W := mm_in2 7 (by decide +kernel) rfl
theorem l_X8_55 : Cond.methodLink RX8 55 yX8_isIn ∈ mm_W := mm_in2 10 (by decide +kernel) rfl
theorem l_X8_59 : Cond.methodLink RX8 59 yX8_needArgument ∈ mm_W := mm_in2 13 (by decide +kernel) rfl
theorem l_X8_67 : Cond.methodLink RX8 67 yX8_needState ∈ mm_W := mm_in2 84 (by decide +kernel) rfl
theorem l_X8_70 : Cond.methodLink RX8 70 yX6_takeSounding ∈ mm_W := mm_in2 103 (by decide +kernel) rfl
theorem l_X8_74 : Cond.methodLink RX8 74 yX6_depthOf ∈ mm_W := mm_in2 108 (by decide +kernel) rfl
theorem l_X8_99 : Cond.methodLink RX8 99 yX0_wavesToday ∈ mm_W := mm_in2 117 (by decide +kernel) rfl
theorem l_X8_103 : Cond.methodLink RX8 103 yX8_passOneDay ∈ mm_W := mm_in2 125 (by decide +kernel) rfl
theorem l_X8_106 : Cond.methodLink RX8 106 yX0_nextDay ∈ mm_W := mm_in2 129 (by decide +kernel) rfl
theorem l_X8_116 : Cond.methodLink RX8 116 yX8_liesAtB ∈ mm_W := mm_in2 134 (by decide +kernel) rfl
theorem l_X8_120 : Cond.methodLink RX8 120 yX8_buoy ∈ mm_W := mm_in2 138 (by decide +kernel) rfl
theorem l_X8_126 : Cond.methodLink RX8 126 yJ9_min_7cf53 ∈ mm_W := mm_in2 142 (by decide +kernel) rfl
theorem l_X8_138 : Cond.methodLink RX8 138 yX5_loseEnd ∈ mm_W := mm_in2 143 (by decide +kernel) rfl
theorem l_X8_142 : Cond.methodLink RX8 142 yX2_dropFrom ∈ mm_W := mm_in2 169 (by decide +kernel) rfl
theorem l_X8_145 : Cond.methodLink RX8 145 yX2_beginAnew ∈ mm_W := mm_in2 175 (by decide +kernel) rfl
theorem l_X8_148 : Cond.methodLink RX8 148 yX8_isType ∈ mm_W := mm_in2 184 (by decide +kernel) rfl
theorem l_X8_152 : Cond.methodLink RX8 152 yX8_isTank ∈ mm_W := mm_in2 188 (by decide +kernel) rfl
theorem l_X8_158 : Cond.methodLink RX8 158 yX3_stow ∈ mm_W := mm_in2 191 (by decide +kernel) rfl
theorem l_X8_162 : Cond.methodLink RX8 162 yX8_layOneCell ∈ mm_W := mm_in2 200 (by decide +kernel) rfl
theorem l_X8_166 : Cond.methodLink RX8 166 yX8_mayGoOn ∈ mm_W := mm_in2 204 (by decide +kernel) rfl
theorem l_X8_169 : Cond.methodLink RX8 169 yX6_isOpen ∈ mm_W := mm_in2 213 (by decide +kernel) rfl
theorem l_X8_172 : Cond.methodLink RX8 172 yX6_groundOf ∈ mm_W := mm_in2 225 (by decide +kernel) rfl
theorem l_X8_175 : Cond.methodLink RX8 175 yX3_gather ∈ mm_W := mm_in2 230 (by decide +kernel) rfl
theorem l_X8_178 : Cond.methodLink RX8 178 yX3_holdsAt ∈ mm_W := mm_in3 0 (by decide +kernel) rfl
theorem l_X8_181 : Cond.methodLink RX8 181 yX8_typeAt ∈ mm_W := mm_in3 14 (by decide +kernel) rfl
theorem l_X8_184 : Cond.methodLink RX8 184 yX3_fits ∈ mm_W := mm_in3 28 (by decide +kernel) rfl
theorem l_X8_187 : Cond.methodLink RX8 187 yX8_putBehind ∈ mm_W := mm_in3 38 (by decide +kernel) rfl
theorem l_X8_190 : Cond.methodLink RX8 190 yX3_sendOut ∈ mm_W := mm_in3 64 (by decide +kernel) rfl
theorem l_X8_193 : Cond.methodLink RX8 193 yX5_endCell ∈ mm_W := mm_in3 70 (by decide +kernel) rfl
theorem l_X8_196 : Cond.methodLink RX8 196 yX0_isForWork ∈ mm_W := mm_in2 208 (by decide +kernel) rfl
theorem l_X8_208 : Cond.methodLink RX8 208 yX7_get ∈ mm_W := mm_in3 42 (by decide +kernel) rfl
theorem l_X8_211 : Cond.methodLink RX8 211 yX5_append ∈ mm_W := mm_in3 43 (by decide +kernel) rfl
theorem l_X8_214 : Cond.methodLink RX8 214 yX5_lastKind ∈ mm_W := mm_in3 236 (by decide +kernel) rfl
theorem l_X8_217 : Cond.methodLink RX8 217 yX5_addBare ∈ mm_W := mm_in3 227 (by decide +kernel) rfl
theorem l_X8_220 : Cond.methodLink RX8 220 yX5_count ∈ mm_W := mm_in3 78 (by decide +kernel) rfl
theorem l_X8_223 : Cond.methodLink RX8 223 yX5_regainEnd ∈ mm_W := mm_in3 228 (by decide +kernel) rfl
theorem l_X8_238 : Cond.methodLink RX8 238 yX5_beginOf ∈ mm_W := mm_in3 142 (by decide +kernel) rfl
theorem l_X8_241 : Cond.methodLink RX8 241 yX5_metresIn ∈ mm_W := mm_in3 150 (by decide +kernel) rfl
theorem l_X8_261 : Cond.methodLink RX8 261 yX5_exchange ∈ mm_W := mm_in3 202 (by decide +kernel) rfl
theorem l_X8_268 : Cond.methodLink RX8 268 yX2_cutOut ∈ mm_W := mm_in3 216 (by decide +kernel) rfl
theorem l_X8_281 : Cond.methodLink RX8 281 yX8_needIndex ∈ mm_W := mm_in3 155 (by decide +kernel) rfl
theorem l_X8_314 : Cond.methodLink RX8 314 yX3_metresIn ∈ mm_W := mm_in3 122 (by decide +kernel) rfl
theorem l_X8_315 : Cond.methodLink RX8 315 yX3_piecesIn ∈ mm_W := mm_in3 130 (by decide +kernel) rfl
theorem l_X8_318 : Cond.methodLink RX8 318 yX3_top ∈ mm_W := mm_in3 134 (by decide +kernel) rfl
theorem l_X8_321 : Cond.methodLink RX8 321 yX3_typeOf ∈ mm_W := mm_in3 27 (by decide +kernel) rfl
theorem l_X8_327 : Cond.methodLink RX8 327 yX5_metreAt ∈ mm_W := mm_in3 178 (by decide +kernel) rfl
theorem l_X8_330 : Cond.methodLink RX8 330 yX5_metreByDeeds ∈ mm_W := mm_in3 184 (by decide +kernel) rfl
theorem l_X8_348 : Cond.methodLink RX8 348 yX5_pieceAt ∈ mm_W := mm_in3 18 (by decide +kernel) rfl
theorem l_X0_1 : Cond.methodLink RX0 1 Lib.objectInit ∈ mm_W ∧ Cond.instanceMethod Lib.objectInit ∈ mm_W ∧ Cond.code Lib.objectInit ⟨#[0xb1]⟩ 1 none ∈ mm_W := ⟨mm_in1 56 (by decide +kernel) rfl, mm_in1 25 (by decide +kernel) rfl, mm_in1 26 (by decide +kernel) rfl⟩
theorem l_X0_17 : Cond.methodLink RX0 17 yX0_wavesToday ∈ mm_W := mm_in2 212 (by decide +kernel) rfl
theorem l_X1_3 : Cond.methodLink RX1 3 Lib.objectInit ∈ mm_W ∧ Cond.instanceMethod Lib.objectInit ∈ mm_W ∧ Cond.code Lib.objectInit ⟨#[0xb1]⟩ 1 none ∈ mm_W := ⟨mm_in1 126 (by decide +kernel) rfl, mm_in1 25 (by decide +kernel) rfl, mm_in1 26 (by decide +kernel) rfl⟩
theorem l_X1_11 : Cond.methodLink RX1 11 yX7_init ∈ mm_W := mm_in1 128 (by decide +kernel) rfl
theorem l_X1_18 : Cond.methodLink RX1 18 yX7_add ∈ mm_W := mm_in2 151 (by decide +kernel) rfl
theorem l_X1_26 : Cond.methodLink RX1 26 yX7_get ∈ mm_W := mm_in3 192 (by decide +kernel) rfl
theorem l_X2_3 : Cond.methodLink RX2 3 Lib.objectInit ∈ mm_W ∧ Cond.instanceMethod Lib.objectInit ∈ mm_W ∧ Cond.code Lib.objectInit ⟨#[0xb1]⟩ 1 none ∈ mm_W := ⟨mm_in1 157 (by decide +kernel) rfl, mm_in1 25 (by decide +kernel) rfl, mm_in1 26 (by decide +kernel) rfl⟩
theorem l_X2_11 : Cond.methodLink RX2 11 yX7_init ∈ mm_W := mm_in1 159 (by decide +kernel) rfl
theorem l_X2_25 : Cond.methodLink RX2 25 yX7_get ∈ mm_W := mm_in2 173 (by decide +kernel) rfl
theorem l_X2_29 : Cond.methodLink RX2 29 yX7_set ∈ mm_W := mm_in2 179 (by decide +kernel) rfl
theorem l_X2_33 : Cond.methodLink RX2 33 yX7_remove ∈ mm_W := mm_in2 174 (by decide +kernel) rfl
theorem l_X3_3 : Cond.methodLink RX3 3 Lib.objectInit ∈ mm_W ∧ Cond.instanceMethod Lib.objectInit ∈ mm_W ∧ Cond.code Lib.objectInit ⟨#[0xb1]⟩ 1 none ∈ mm_W := ⟨mm_in1 75 (by decide +kernel) rfl, mm_in1 25 (by decide +kernel) rfl, mm_in1 26 (by decide +kernel) rfl⟩
theorem l_X3_17 : Cond.methodLink RX3 17 yX7_init ∈ mm_W := mm_in1 78 (by decide +kernel) rfl
theorem l_X3_32 : Cond.methodLink RX3 32 yX7_add ∈ mm_W := mm_in2 195 (by decide +kernel) rfl
theorem l_X3_39 : Cond.methodLink RX3 39 yX7_get ∈ mm_W := mm_in2 238 (by decide +kernel) rfl
theorem l_X3_43 : Cond.methodLink RX3 43 yX7_clear ∈ mm_W := mm_in2 234 (by decide +kernel) rfl
theorem l_X3_46 : Cond.methodLink RX3 46 yJ9_min_7cf53 ∈ mm_W := mm_in2 239 (by decide +kernel) rfl
theorem l_X3_51 : Cond.methodLink RX3 51 yX7_remove ∈ mm_W := mm_in3 68 (by decide +kernel) rfl
theorem l_X3_55 : Cond.methodLink RX3 55 yX7_set ∈ mm_W := mm_in3 69 (by decide +kernel) rfl
theorem l_X3_59 : Cond.methodLink RX3 59 yX3_typeOf ∈ mm_W := mm_in3 4 (by decide +kernel) rfl
theorem l_X3_63 : Cond.methodLink RX3 63 yX3_isNear ∈ mm_W := mm_in3 32 (by decide +kernel) rfl
theorem l_X3_67 : Cond.methodLink RX3 67 yX3_pull ∈ mm_W := mm_in3 8 (by decide +kernel) rfl
theorem l_X3_70 : Cond.methodLink RX3 70 yX3_mostPull ∈ mm_W := mm_in3 11 (by decide +kernel) rfl
theorem l_X3_73 : Cond.methodLink RX3 73 yJ9_abs_0f7a4 ∈ mm_W := mm_in3 35 (by decide +kernel) rfl
theorem l_X4_3 : Cond.methodLink RX4 3 Lib.objectInit ∈ mm_W ∧ Cond.instanceMethod Lib.objectInit ∈ mm_W ∧ Cond.code Lib.objectInit ⟨#[0xb1]⟩ 1 none ∈ mm_W := ⟨mm_in1 169 (by decide +kernel) rfl, mm_in1 25 (by decide +kernel) rfl, mm_in1 26 (by decide +kernel) rfl⟩
theorem l_X4_11 : Cond.methodLink RX4 11 yX7_init ∈ mm_W := mm_in1 171 (by decide +kernel) rfl
theorem l_X4_25 : Cond.methodLink RX4 25 yX7_add ∈ mm_W := mm_in1 172 (by decide +kernel) rfl
theorem l_X5_3 : Cond.methodLink RX5 3 Lib.objectInit ∈ mm_W ∧ Cond.instanceMethod Lib.objectInit ∈ mm_W ∧ Cond.code Lib.objectInit ⟨#[0xb1]⟩ 1 none ∈ mm_W := ⟨mm_in1 118 (by decide +kernel) rfl, mm_in1 25 (by decide +kernel) rfl, mm_in1 26 (by decide +kernel) rfl⟩
theorem l_X5_11 : Cond.methodLink RX5 11 yX7_init ∈ mm_W := mm_in1 120 (by decide +kernel) rfl
theorem l_X5_20 : Cond.methodLinkNest RX5 20 yX1_init "CableShip" ∈ mm_N := mm_inN1 123 (by decide +kernel) rfl
theorem l_X5_33 : Cond.methodLink RX5 33 yX5_metresIn ∈ mm_W := mm_in3 146 (by decide +kernel) rfl
theorem l_X5_37 : Cond.methodLinkNest RX5 37 yX8_isCell "CableShip" ∈ mm_N := mm_inN2 156 (by decide +kernel) rfl
theorem l_X5_44 : Cond.methodLink RX5 44 yX7_get ∈ mm_W := mm_in2 157 (by decide +kernel) rfl
theorem l_X5_48 : Cond.methodLink RX5 48 yX7_add ∈ mm_W := mm_in3 63 (by decide +kernel) rfl
theorem l_X5_55 : Cond.methodLink RX5 55 yX1_putIn ∈ mm_W := mm_in3 47 (by decide +kernel) rfl
theorem l_X5_58 : Cond.methodLink RX5 58 yX5_lastKind ∈ mm_W := mm_in3 51 (by decide +kernel) rfl
theorem l_X5_62 : Cond.methodLink RX5 62 yX5_goesOn ∈ mm_W := mm_in3 55 (by decide +kernel) rfl
theorem l_X5_66 : Cond.methodLink RX5 66 yX7_set ∈ mm_W := mm_in2 161 (by decide +kernel) rfl
theorem l_X5_70 : Cond.methodLink RX5 70 yX5_addBare ∈ mm_W := mm_in3 59 (by decide +kernel) rfl
theorem l_X5_74 : Cond.methodLink RX5 74 yX1_cutOut ∈ mm_W := mm_in2 147 (by decide +kernel) rfl
theorem l_X5_78 : Cond.methodLink RX5 78 yX5_regainEnd ∈ mm_W := mm_in2 152 (by decide +kernel) rfl
theorem l_X5_81 : Cond.methodLink RX5 81 yX7_remove ∈ mm_W := mm_in2 165 (by decide +kernel) rfl
theorem l_X5_84 : Cond.methodLink RX5 84 yX5_beginOf ∈ mm_W := mm_in3 206 (by decide +kernel) rfl
theorem l_X5_87 : Cond.methodLink RX5 87 yX5_cutThings ∈ mm_W := mm_in3 207 (by decide +kernel) rfl
theorem l_X5_90 : Cond.methodLink RX5 90 yX7_insert ∈ mm_W := mm_in3 215 (by decide +kernel) rfl
theorem l_X5_94 : Cond.methodLink RX5 94 yX5_divideAt ∈ mm_W := mm_in3 211 (by decide +kernel) rfl
theorem l_X5_98 : Cond.methodLink RX5 98 yX1_metreAt ∈ mm_W := mm_in3 188 (by decide +kernel) rfl
theorem l_X5_101 : Cond.methodLink RX5 101 yX5_metreAt ∈ mm_W := mm_in3 22 (by decide +kernel) rfl
theorem l_X6_3 : Cond.methodLink RX6 3 Lib.objectInit ∈ mm_W ∧ Cond.instanceMethod Lib.objectInit ∈ mm_W ∧ Cond.code Lib.objectInit ⟨#[0xb1]⟩ 1 none ∈ mm_W := ⟨mm_in1 32 (by decide +kernel) rfl, mm_in1 25 (by decide +kernel) rfl, mm_in1 26 (by decide +kernel) rfl⟩
theorem l_X6_25 : Cond.methodLink RX6 25 yJ7_fill_53178 ∈ mm_W := mm_in1 33 (by decide +kernel) rfl
theorem l_X6_31 : Cond.methodLinkNest RX6 31 yX8_isCell "CableShip" ∈ mm_N := mm_inN2 107 (by decide +kernel) rfl
theorem l_X6_35 : Cond.methodLink RX6 35 yX6_depthOf ∈ mm_W := mm_in2 229 (by decide +kernel) rfl
theorem l_X6_39 : Cond.methodLink RX6 39 yX6_hasWreck ∈ mm_W := mm_in2 217 (by decide +kernel) rfl
theorem l_X6_42 : Cond.methodLink RX6 42 yX6_crossingOf ∈ mm_W := mm_in2 221 (by decide +kernel) rfl
theorem l_X7_3 : Cond.methodLink RX7 3 Lib.objectInit ∈ mm_W ∧ Cond.instanceMethod Lib.objectInit ∈ mm_W ∧ Cond.code Lib.objectInit ⟨#[0xb1]⟩ 1 none ∈ mm_W := ⟨mm_in1 81 (by decide +kernel) rfl, mm_in1 25 (by decide +kernel) rfl, mm_in1 26 (by decide +kernel) rfl⟩
theorem l_X7_19 : Cond.methodLink RX7 19 yX7_insert ∈ mm_W := mm_in1 176 (by decide +kernel) rfl
theorem l_X7_24 : Cond.methodLink RX7 24 yJ7_copyOf_59c91 ∈ mm_W := mm_in1 181 (by decide +kernel) rfl
theorem l_X7_30 : Cond.methodLink RX7 30 arraycopyName ∈ mm_W ∧ Cond.native arraycopyName ∈ mm_W ∧ Cond.static arraycopyName ∈ mm_W ∧ Cond.initialized "java/lang/System" ∈ mm_W := ⟨mm_in1 197 (by decide +kernel) rfl, mm_in1 196 (by decide +kernel) rfl, mm_in1 195 (by decide +kernel) rfl, mm_in1 12 (by decide +kernel) rfl⟩
theorem l_L_10 : Cond.methodLink RL 10 yL_depth ∈ mm_W := mm_in3 91 (by decide +kernel) rfl
theorem l_L_16 : Cond.methodLink RL 16 yL_line ∈ mm_W := mm_in3 100 (by decide +kernel) rfl
theorem l_L_20 : Cond.methodLink RL 20 yX8_line ∈ mm_W := mm_in3 74 (by decide +kernel) rfl
theorem l_L_25 : Cond.methodLink RL 25 yX8_day ∈ mm_W := mm_in3 106 (by decide +kernel) rfl
theorem l_L_29 : Cond.methodLink RL 29 yX8_waves ∈ mm_W := mm_in3 110 (by decide +kernel) rfl
theorem l_L_32 : Cond.methodLink RL 32 yX8_canWork ∈ mm_W := mm_in3 114 (by decide +kernel) rfl
theorem l_L_36 : Cond.methodLink RL 36 yL_works ∈ mm_W := mm_in3 97 (by decide +kernel) rfl
theorem l_L_40 : Cond.methodLink RL 40 yX8_isKept ∈ mm_W := mm_in3 118 (by decide +kernel) rfl
theorem l_L_43 : Cond.methodLink RL 43 yX8_tank ∈ mm_W := mm_in3 126 (by decide +kernel) rfl
theorem l_L_47 : Cond.methodLink RL 47 yX8_cell ∈ mm_W := mm_in3 138 (by decide +kernel) rfl
theorem l_L_50 : Cond.methodLink RL 50 yL_due ∈ mm_W := mm_in3 94 (by decide +kernel) rfl
theorem l_L_54 : Cond.methodLink RL 54 yX8_thing ∈ mm_W := mm_in3 151 (by decide +kernel) rfl
theorem l_L_57 : Cond.methodLink RL 57 yX8_metre ∈ mm_W := mm_in3 174 (by decide +kernel) rfl
theorem l_L_61 : Cond.methodLink RL 61 yX8_metreAnew ∈ mm_W := mm_in3 180 (by decide +kernel) rfl
theorem l_L_64 : Cond.methodLink RL 64 yX8_mend ∈ mm_W := mm_in3 198 (by decide +kernel) rfl
theorem l_L_69 : Cond.methodLink RL 69 yX8_takeUp ∈ mm_W := mm_in3 223 (by decide +kernel) rfl
theorem l_L_72 : Cond.methodLink RL 72 yX8_repeater ∈ mm_W := mm_in3 232 (by decide +kernel) rfl
theorem l_L_75 : Cond.methodLink RL 75 yX8_init ∈ mm_W := mm_in1 21 (by decide +kernel) rfl
theorem l_L_76 : Cond.methodLink RL 76 yL_cell ∈ mm_W := mm_in3 82 (by decide +kernel) rfl
theorem l_L_78 : Cond.methodLink RL 78 yL_low ∈ mm_W := mm_in3 87 (by decide +kernel) rfl
theorem l_L_82 : Cond.methodLink RL 82 yX8_weather ∈ mm_W := mm_in2 112 (by decide +kernel) rfl
theorem l_L_85 : Cond.methodLink RL 85 yX8_sound ∈ mm_W := mm_in2 3 (by decide +kernel) rfl
theorem l_L_90 : Cond.methodLink RL 90 yX8_make ∈ mm_W := mm_in2 180 (by decide +kernel) rfl
theorem l_L_93 : Cond.methodLink RL 93 yX8_lay ∈ mm_W := mm_in2 196 (by decide +kernel) rfl
theorem l_L_96 : Cond.methodLink RL 96 yX8_pass ∈ mm_W := mm_in2 121 (by decide +kernel) rfl
theorem l_L_99 : Cond.methodLink RL 99 yL_taken ∈ mm_W := mm_in3 220 (by decide +kernel) rfl
theorem l_L_103 : Cond.methodLink RL 103 yL_repeated ∈ mm_W := mm_in3 229 (by decide +kernel) rfl
theorem l_L_107 : Cond.methodLink RL 107 yL_mended ∈ mm_W := mm_in3 194 (by decide +kernel) rfl
theorem l_L_111 : Cond.methodLink RL 111 yL_right ∈ mm_W := mm_in3 103 (by decide +kernel) rfl
theorem l_J7_150 : Cond.methodLink RJ7 150 arraycopyName ∈ mm_W ∧ Cond.native arraycopyName ∈ mm_W ∧ Cond.static arraycopyName ∈ mm_W ∧ Cond.initialized "java/lang/System" ∈ mm_W := ⟨mm_in1 194 (by decide +kernel) rfl, mm_in1 196 (by decide +kernel) rfl, mm_in1 195 (by decide +kernel) rfl, mm_in1 12 (by decide +kernel) rfl⟩
theorem l_J7_304 : Cond.methodLink RJ7 304 yJ9_min_7cf53 ∈ mm_W := mm_in1 191 (by decide +kernel) rfl
theorem g_X8_10 : mm_gf RX8 10 8 0 := ⟨RX8, TX8, 12, rfl, by decide, w_f8, mm_in1 208 (by decide +kernel) rfl⟩
theorem p_X8_10 : mm_pf RX8 10 8 0 true (.object "CableShip$Sea") := ⟨RX8, TX8, 12, tyX8, rfl, by decide, w_f8, mm_in1 208 (by decide +kernel) rfl, tyX8_ok, nmX8, rfl, fun _ => rfl, rfl⟩
theorem g_X8_19 : mm_gf RX8 19 8 1 := ⟨RX8, TX8, 12, rfl, by decide, w_f8, mm_in1 209 (by decide +kernel) rfl⟩
theorem p_X8_19 : mm_pf RX8 19 8 1 true (.object "CableShip$Calendar") := ⟨RX8, TX8, 12, tyX8, rfl, by decide, w_f8, mm_in1 209 (by decide +kernel) rfl, tyX8_ok, nmX8, rfl, fun _ => rfl, rfl⟩
theorem g_X8_26 : mm_gf RX8 26 8 2 := ⟨RX8, TX8, 12, rfl, by decide, w_f8, mm_in1 210 (by decide +kernel) rfl⟩
theorem p_X8_26 : mm_pf RX8 26 8 2 true (.object "CableShip$Hold") := ⟨RX8, TX8, 12, tyX8, rfl, by decide, w_f8, mm_in1 210 (by decide +kernel) rfl, tyX8_ok, nmX8, rfl, fun _ => rfl, rfl⟩
theorem g_X8_33 : mm_gf RX8 33 8 3 := ⟨RX8, TX8, 12, rfl, by decide, w_f8, mm_in1 211 (by decide +kernel) rfl⟩
theorem p_X8_33 : mm_pf RX8 33 8 3 true (.object "CableShip$Row") := ⟨RX8, TX8, 12, tyX8, rfl, by decide, w_f8, mm_in1 211 (by decide +kernel) rfl, tyX8_ok, nmX8, rfl, fun _ => rfl, rfl⟩
theorem g_X8_40 : mm_gf RX8 40 8 4 := ⟨RX8, TX8, 12, rfl, by decide, w_f8, mm_in1 212 (by decide +kernel) rfl⟩
theorem p_X8_40 : mm_pf RX8 40 8 4 true (.object "CableShip$FaultBook") := ⟨RX8, TX8, 12, tyX8, rfl, by decide, w_f8, mm_in1 212 (by decide +kernel) rfl, tyX8_ok, nmX8, rfl, fun _ => rfl, rfl⟩
theorem g_X8_47 : mm_gf RX8 47 8 5 := ⟨RX8, TX8, 12, rfl, by decide, w_f8, mm_in1 213 (by decide +kernel) rfl⟩
theorem p_X8_47 : mm_pf RX8 47 8 5 true (.object "CableShip$Network") := ⟨RX8, TX8, 12, tyX8, rfl, by decide, w_f8, mm_in1 213 (by decide +kernel) rfl, tyX8_ok, nmX8, rfl, fun _ => rfl, rfl⟩
theorem g_X8_63 : mm_gf RX8 63 5 3 := ⟨RX5, TX5, 5, rfl, by decide, w_f5, mm_in1 138 (by decide +kernel) rfl⟩
theorem p_X8_63 : mm_pf RX8 63 5 3 false .int := ⟨RX5, TX5, 5, tyX5, rfl, by decide, w_f5, mm_in1 138 (by decide +kernel) rfl, tyX5_ok, nmX5, rfl, (fun z => nomatch z), rfl⟩
theorem g_X8_93 : mm_gf RX8 93 0 0 := ⟨RX0, TX0, 3, rfl, by decide, w_f0, mm_in1 58 (by decide +kernel) rfl⟩
theorem p_X8_93 : mm_pf RX8 93 0 0 false .int := ⟨RX0, TX0, 3, tyX0, rfl, by decide, w_f0, mm_in1 58 (by decide +kernel) rfl, tyX0_ok, nmX0, rfl, (fun z => nomatch z), rfl⟩
theorem g_X8_96 : mm_gf RX8 96 0 1 := ⟨RX0, TX0, 3, rfl, by decide, w_f0, mm_in1 60 (by decide +kernel) rfl⟩
theorem p_X8_96 : mm_pf RX8 96 0 1 false .int := ⟨RX0, TX0, 3, tyX0, rfl, by decide, w_f0, mm_in1 60 (by decide +kernel) rfl, tyX0_ok, nmX0, rfl, (fun z => nomatch z), rfl⟩
theorem g_X8_109 : mm_gf RX8 109 8 6 := ⟨RX8, TX8, 12, rfl, by decide, w_f8, mm_in1 214 (by decide +kernel) rfl⟩
theorem p_X8_109 : mm_pf RX8 109 8 6 false .int := ⟨RX8, TX8, 12, tyX8, rfl, by decide, w_f8, mm_in1 214 (by decide +kernel) rfl, tyX8_ok, nmX8, rfl, fun _ => rfl, rfl⟩
theorem g_X8_112 : mm_gf RX8 112 8 7 := ⟨RX8, TX8, 12, rfl, by decide, w_f8, mm_in1 215 (by decide +kernel) rfl⟩
theorem p_X8_112 : mm_pf RX8 112 8 7 false .boolean := ⟨RX8, TX8, 12, tyX8, rfl, by decide, w_f8, mm_in1 215 (by decide +kernel) rfl, tyX8_ok, nmX8, rfl, fun _ => rfl, rfl⟩
theorem g_X8_123 : mm_gf RX8 123 5 4 := ⟨RX5, TX5, 5, rfl, by decide, w_f5, mm_in1 140 (by decide +kernel) rfl⟩
theorem p_X8_123 : mm_pf RX8 123 5 4 false .int := ⟨RX5, TX5, 5, tyX5, rfl, by decide, w_f5, mm_in1 140 (by decide +kernel) rfl, tyX5_ok, nmX5, rfl, (fun z => nomatch z), rfl⟩
theorem g_X8_132 : mm_gf RX8 132 8 8 := ⟨RX8, TX8, 12, rfl, by decide, w_f8, mm_in1 216 (by decide +kernel) rfl⟩
theorem p_X8_132 : mm_pf RX8 132 8 8 false .int := ⟨RX8, TX8, 12, tyX8, rfl, by decide, w_f8, mm_in1 216 (by decide +kernel) rfl, tyX8_ok, nmX8, rfl, fun _ => rfl, rfl⟩
theorem g_X8_135 : mm_gf RX8 135 8 9 := ⟨RX8, TX8, 12, rfl, by decide, w_f8, mm_in1 217 (by decide +kernel) rfl⟩
theorem p_X8_135 : mm_pf RX8 135 8 9 false .int := ⟨RX8, TX8, 12, tyX8, rfl, by decide, w_f8, mm_in1 217 (by decide +kernel) rfl, tyX8_ok, nmX8, rfl, fun _ => rfl, rfl⟩
theorem g_X8_155 : mm_gf RX8 155 3 3 := ⟨RX3, TX3, 5, rfl, by decide, w_f3, mm_in1 99 (by decide +kernel) rfl⟩
theorem p_X8_155 : mm_pf RX8 155 3 3 false .int := ⟨RX3, TX3, 5, tyX3, rfl, by decide, w_f3, mm_in1 99 (by decide +kernel) rfl, tyX3_ok, nmX3, rfl, (fun z => nomatch z), rfl⟩
theorem g_X8_199 : mm_gf RX8 199 3 2 := ⟨RX3, TX3, 5, rfl, by decide, w_f3, mm_in1 97 (by decide +kernel) rfl⟩
theorem g_X8_203 : mm_gf RX8 203 7 1 := ⟨RX7, TX7, 2, rfl, by decide, w_f7, mm_in1 88 (by decide +kernel) rfl⟩
theorem p_X8_203 : mm_pf RX8 203 7 1 false .int := ⟨RX7, TX7, 2, tyX7, rfl, by decide, w_f7, mm_in1 88 (by decide +kernel) rfl, tyX7_ok, nmX7, rfl, (fun z => nomatch z), rfl⟩
theorem g_X8_265 : mm_gf RX8 265 0 2 := ⟨RX0, TX0, 3, rfl, by decide, w_f0, mm_in1 62 (by decide +kernel) rfl⟩
theorem p_X8_265 : mm_pf RX8 265 0 2 false .int := ⟨RX0, TX0, 3, tyX0, rfl, by decide, w_f0, mm_in1 62 (by decide +kernel) rfl, tyX0_ok, nmX0, rfl, (fun z => nomatch z), rfl⟩
theorem g_X8_324 : mm_gf RX8 324 5 0 := ⟨RX5, TX5, 5, rfl, by decide, w_f5, mm_in1 134 (by decide +kernel) rfl⟩
theorem g_X8_345 : mm_gf RX8 345 3 4 := ⟨RX3, TX3, 5, rfl, by decide, w_f3, mm_in1 101 (by decide +kernel) rfl⟩
theorem p_X8_345 : mm_pf RX8 345 3 4 false .int := ⟨RX3, TX3, 5, tyX3, rfl, by decide, w_f3, mm_in1 101 (by decide +kernel) rfl, tyX3_ok, nmX3, rfl, (fun z => nomatch z), rfl⟩
theorem g_X0_7 : mm_gf RX0 7 0 0 := ⟨RX0, TX0, 3, rfl, by decide, w_f0, mm_in1 57 (by decide +kernel) rfl⟩
theorem p_X0_7 : mm_pf RX0 7 0 0 false .int := ⟨RX0, TX0, 3, tyX0, rfl, by decide, w_f0, mm_in1 57 (by decide +kernel) rfl, tyX0_ok, nmX0, rfl, fun _ => rfl, rfl⟩
theorem g_X0_13 : mm_gf RX0 13 0 1 := ⟨RX0, TX0, 3, rfl, by decide, w_f0, mm_in1 59 (by decide +kernel) rfl⟩
theorem p_X0_13 : mm_pf RX0 13 0 1 false .int := ⟨RX0, TX0, 3, tyX0, rfl, by decide, w_f0, mm_in1 59 (by decide +kernel) rfl, tyX0_ok, nmX0, rfl, fun _ => rfl, rfl⟩
theorem g_X0_21 : mm_gf RX0 21 0 2 := ⟨RX0, TX0, 3, rfl, by decide, w_f0, mm_in1 61 (by decide +kernel) rfl⟩
theorem p_X0_21 : mm_pf RX0 21 0 2 false .int := ⟨RX0, TX0, 3, tyX0, rfl, by decide, w_f0, mm_in1 61 (by decide +kernel) rfl, tyX0_ok, nmX0, rfl, fun _ => rfl, rfl⟩
theorem g_X1_12 : mm_gf RX1 12 1 0 := ⟨RX1, TX1, 1, rfl, by decide, w_f1, mm_in1 129 (by decide +kernel) rfl⟩
theorem p_X1_12 : mm_pf RX1 12 1 0 true (.object "CableShip$Table") := ⟨RX1, TX1, 1, tyX1, rfl, by decide, w_f1, mm_in1 129 (by decide +kernel) rfl, tyX1_ok, nmX1, rfl, fun _ => rfl, rfl⟩
theorem g_X1_22 : mm_gf RX1 22 7 1 := ⟨RX7, TX7, 2, rfl, by decide, w_f7, mm_in1 84 (by decide +kernel) rfl⟩
theorem p_X1_22 : mm_pf RX1 22 7 1 false .int := ⟨RX7, TX7, 2, tyX7, rfl, by decide, w_f7, mm_in1 84 (by decide +kernel) rfl, tyX7_ok, nmX7, rfl, (fun z => nomatch z), rfl⟩
theorem g_X2_12 : mm_gf RX2 12 2 0 := ⟨RX2, TX2, 1, rfl, by decide, w_f2, mm_in1 160 (by decide +kernel) rfl⟩
theorem p_X2_12 : mm_pf RX2 12 2 0 true (.object "CableShip$Table") := ⟨RX2, TX2, 1, tyX2, rfl, by decide, w_f2, mm_in1 160 (by decide +kernel) rfl, tyX2_ok, nmX2, rfl, fun _ => rfl, rfl⟩
theorem g_X2_18 : mm_gf RX2 18 7 1 := ⟨RX7, TX7, 2, rfl, by decide, w_f7, mm_in1 87 (by decide +kernel) rfl⟩
theorem p_X2_18 : mm_pf RX2 18 7 1 false .int := ⟨RX7, TX7, 2, tyX7, rfl, by decide, w_f7, mm_in1 87 (by decide +kernel) rfl, tyX7_ok, nmX7, rfl, (fun z => nomatch z), rfl⟩
theorem g_X3_11 : mm_gf RX3 11 3 0 := ⟨RX3, TX3, 5, rfl, by decide, w_f3, mm_in1 94 (by decide +kernel) rfl⟩
theorem p_X3_11 : mm_pf RX3 11 3 0 true (.array .int) := ⟨RX3, TX3, 5, tyX3, rfl, by decide, w_f3, mm_in1 94 (by decide +kernel) rfl, tyX3_ok, nmX3, rfl, fun _ => rfl, rfl⟩
theorem g_X3_18 : mm_gf RX3 18 3 1 := ⟨RX3, TX3, 5, rfl, by decide, w_f3, mm_in1 95 (by decide +kernel) rfl⟩
theorem p_X3_18 : mm_pf RX3 18 3 1 true (.object "CableShip$Table") := ⟨RX3, TX3, 5, tyX3, rfl, by decide, w_f3, mm_in1 95 (by decide +kernel) rfl, tyX3_ok, nmX3, rfl, fun _ => rfl, rfl⟩
theorem g_X3_22 : mm_gf RX3 22 3 2 := ⟨RX3, TX3, 5, rfl, by decide, w_f3, mm_in1 96 (by decide +kernel) rfl⟩
theorem p_X3_22 : mm_pf RX3 22 3 2 true (.object "CableShip$Table") := ⟨RX3, TX3, 5, tyX3, rfl, by decide, w_f3, mm_in1 96 (by decide +kernel) rfl, tyX3_ok, nmX3, rfl, fun _ => rfl, rfl⟩
theorem g_X3_25 : mm_gf RX3 25 3 3 := ⟨RX3, TX3, 5, rfl, by decide, w_f3, mm_in1 98 (by decide +kernel) rfl⟩
theorem p_X3_25 : mm_pf RX3 25 3 3 false .int := ⟨RX3, TX3, 5, tyX3, rfl, by decide, w_f3, mm_in1 98 (by decide +kernel) rfl, tyX3_ok, nmX3, rfl, fun _ => rfl, rfl⟩
theorem g_X3_29 : mm_gf RX3 29 3 4 := ⟨RX3, TX3, 5, rfl, by decide, w_f3, mm_in1 100 (by decide +kernel) rfl⟩
theorem p_X3_29 : mm_pf RX3 29 3 4 false .int := ⟨RX3, TX3, 5, tyX3, rfl, by decide, w_f3, mm_in1 100 (by decide +kernel) rfl, tyX3_ok, nmX3, rfl, fun _ => rfl, rfl⟩
theorem g_X3_36 : mm_gf RX3 36 7 1 := ⟨RX7, TX7, 2, rfl, by decide, w_f7, mm_in1 85 (by decide +kernel) rfl⟩
theorem p_X3_36 : mm_pf RX3 36 7 1 false .int := ⟨RX7, TX7, 2, tyX7, rfl, by decide, w_f7, mm_in1 85 (by decide +kernel) rfl, tyX7_ok, nmX7, rfl, (fun z => nomatch z), rfl⟩
theorem g_X4_12 : mm_gf RX4 12 4 0 := ⟨RX4, TX4, 3, rfl, by decide, w_f4, mm_in1 198 (by decide +kernel) rfl⟩
theorem p_X4_12 : mm_pf RX4 12 4 0 true (.object "CableShip$Table") := ⟨RX4, TX4, 3, tyX4, rfl, by decide, w_f4, mm_in1 198 (by decide +kernel) rfl, tyX4_ok, nmX4, rfl, fun _ => rfl, rfl⟩
theorem g_X4_18 : mm_gf RX4 18 4 1 := ⟨RX4, TX4, 3, rfl, by decide, w_f4, mm_in1 199 (by decide +kernel) rfl⟩
theorem p_X4_18 : mm_pf RX4 18 4 1 true (.object "CableShip$Table") := ⟨RX4, TX4, 3, tyX4, rfl, by decide, w_f4, mm_in1 199 (by decide +kernel) rfl, tyX4_ok, nmX4, rfl, fun _ => rfl, rfl⟩
theorem g_X4_21 : mm_gf RX4 21 4 2 := ⟨RX4, TX4, 3, rfl, by decide, w_f4, mm_in1 200 (by decide +kernel) rfl⟩
theorem p_X4_21 : mm_pf RX4 21 4 2 true (.array .int) := ⟨RX4, TX4, 3, tyX4, rfl, by decide, w_f4, mm_in1 200 (by decide +kernel) rfl, tyX4_ok, nmX4, rfl, fun _ => rfl, rfl⟩
theorem g_X5_12 : mm_gf RX5 12 5 0 := ⟨RX5, TX5, 5, rfl, by decide, w_f5, mm_in1 133 (by decide +kernel) rfl⟩
theorem p_X5_12 : mm_pf RX5 12 5 0 true (.object "CableShip$Table") := ⟨RX5, TX5, 5, tyX5, rfl, by decide, w_f5, mm_in1 133 (by decide +kernel) rfl, tyX5_ok, nmX5, rfl, fun _ => rfl, rfl⟩
theorem g_X5_21 : mm_gf RX5 21 5 1 := ⟨RX5, TX5, 5, rfl, by decide, w_f5, mm_in1 135 (by decide +kernel) rfl⟩
theorem p_X5_21 : mm_pf RX5 21 5 1 true (.object "CableShip$Deeds") := ⟨RX5, TX5, 5, tyX5, rfl, by decide, w_f5, mm_in1 135 (by decide +kernel) rfl, tyX5_ok, nmX5, rfl, fun _ => rfl, rfl⟩
theorem g_X5_25 : mm_gf RX5 25 5 2 := ⟨RX5, TX5, 5, rfl, by decide, w_f5, mm_in1 136 (by decide +kernel) rfl⟩
theorem p_X5_25 : mm_pf RX5 25 5 2 true (.array .int) := ⟨RX5, TX5, 5, tyX5, rfl, by decide, w_f5, mm_in1 136 (by decide +kernel) rfl, tyX5_ok, nmX5, rfl, fun _ => rfl, rfl⟩
theorem g_X5_29 : mm_gf RX5 29 5 3 := ⟨RX5, TX5, 5, rfl, by decide, w_f5, mm_in1 137 (by decide +kernel) rfl⟩
theorem p_X5_29 : mm_pf RX5 29 5 3 false .int := ⟨RX5, TX5, 5, tyX5, rfl, by decide, w_f5, mm_in1 137 (by decide +kernel) rfl, tyX5_ok, nmX5, rfl, fun _ => rfl, rfl⟩
theorem g_X5_41 : mm_gf RX5 41 7 1 := ⟨RX7, TX7, 2, rfl, by decide, w_f7, mm_in1 86 (by decide +kernel) rfl⟩
theorem p_X5_41 : mm_pf RX5 41 7 1 false .int := ⟨RX7, TX7, 2, tyX7, rfl, by decide, w_f7, mm_in1 86 (by decide +kernel) rfl, tyX7_ok, nmX7, rfl, (fun z => nomatch z), rfl⟩
theorem g_X5_52 : mm_gf RX5 52 5 4 := ⟨RX5, TX5, 5, rfl, by decide, w_f5, mm_in1 139 (by decide +kernel) rfl⟩
theorem p_X5_52 : mm_pf RX5 52 5 4 false .int := ⟨RX5, TX5, 5, tyX5, rfl, by decide, w_f5, mm_in1 139 (by decide +kernel) rfl, tyX5_ok, nmX5, rfl, fun _ => rfl, rfl⟩
theorem g_X6_9 : mm_gf RX6 9 6 0 := ⟨RX6, TX6, 4, rfl, by decide, w_f6, mm_in1 36 (by decide +kernel) rfl⟩
theorem p_X6_9 : mm_pf RX6 9 6 0 true (.array .int) := ⟨RX6, TX6, 4, tyX6, rfl, by decide, w_f6, mm_in1 36 (by decide +kernel) rfl, tyX6_ok, nmX6, rfl, fun _ => rfl, rfl⟩
theorem g_X6_15 : mm_gf RX6 15 6 1 := ⟨RX6, TX6, 4, rfl, by decide, w_f6, mm_in1 37 (by decide +kernel) rfl⟩
theorem p_X6_15 : mm_pf RX6 15 6 1 true (.array .int) := ⟨RX6, TX6, 4, tyX6, rfl, by decide, w_f6, mm_in1 37 (by decide +kernel) rfl, tyX6_ok, nmX6, rfl, fun _ => rfl, rfl⟩
theorem g_X6_18 : mm_gf RX6 18 6 2 := ⟨RX6, TX6, 4, rfl, by decide, w_f6, mm_in1 38 (by decide +kernel) rfl⟩
theorem p_X6_18 : mm_pf RX6 18 6 2 true (.array .boolean) := ⟨RX6, TX6, 4, tyX6, rfl, by decide, w_f6, mm_in1 38 (by decide +kernel) rfl, tyX6_ok, nmX6, rfl, fun _ => rfl, rfl⟩
theorem g_X6_22 : mm_gf RX6 22 6 3 := ⟨RX6, TX6, 4, rfl, by decide, w_f6, mm_in1 39 (by decide +kernel) rfl⟩
theorem p_X6_22 : mm_pf RX6 22 6 3 true (.array .int) := ⟨RX6, TX6, 4, tyX6, rfl, by decide, w_f6, mm_in1 39 (by decide +kernel) rfl, tyX6_ok, nmX6, rfl, fun _ => rfl, rfl⟩
theorem g_X7_11 : mm_gf RX7 11 7 0 := ⟨RX7, TX7, 2, rfl, by decide, w_f7, mm_in1 82 (by decide +kernel) rfl⟩
theorem p_X7_11 : mm_pf RX7 11 7 0 false (.array .int) := ⟨RX7, TX7, 2, tyX7, rfl, by decide, w_f7, mm_in1 82 (by decide +kernel) rfl, tyX7_ok, nmX7, rfl, fun _ => rfl, rfl⟩
theorem g_X7_15 : mm_gf RX7 15 7 1 := ⟨RX7, TX7, 2, rfl, by decide, w_f7, mm_in1 83 (by decide +kernel) rfl⟩
theorem p_X7_15 : mm_pf RX7 15 7 1 false .int := ⟨RX7, TX7, 2, tyX7, rfl, by decide, w_f7, mm_in1 83 (by decide +kernel) rfl, tyX7_ok, nmX7, rfl, fun _ => rfl, rfl⟩
theorem n_L_21 : mm_nw RL 21 8 12 [.null, .null, .null, .null, .null, .null, .int 0, .int 0, .int 0, .int 0, .int 0, .int 0] := ⟨RX8, TX8, tyX8, rfl, w_f8, tyX8_ok, mm_in1 19 (by decide +kernel) rfl, mm_in1 20 (by decide +kernel) rfl, mm_in1 1 (by decide +kernel) rfl, by decide, by decide⟩
theorem n_X8_7 : mm_nw RX8 7 6 4 [.null, .null, .null, .null] := ⟨RX6, TX6, tyX6, rfl, w_f6, tyX6_ok, mm_in1 27 (by decide +kernel) rfl, mm_in1 28 (by decide +kernel) rfl, mm_in1 2 (by decide +kernel) rfl, by decide, by decide⟩
theorem n_X8_16 : mm_nw RX8 16 0 3 [.int 0, .int 0, .int 0] := ⟨RX0, TX0, tyX0, rfl, w_f0, tyX0_ok, mm_in1 51 (by decide +kernel) rfl, mm_in1 52 (by decide +kernel) rfl, mm_in1 4 (by decide +kernel) rfl, by decide, by decide⟩
theorem n_X8_23 : mm_nw RX8 23 3 5 [.null, .null, .null, .int 0, .int 0] := ⟨RX3, TX3, tyX3, rfl, w_f3, tyX3_ok, mm_in1 70 (by decide +kernel) rfl, mm_in1 71 (by decide +kernel) rfl, mm_in1 5 (by decide +kernel) rfl, by decide, by decide⟩
theorem n_X3_15 : mm_nw RX3 15 7 2 [.null, .int 0] := ⟨RX7, TX7, tyX7, rfl, w_f7, tyX7_ok, mm_in1 76 (by decide +kernel) rfl, mm_in1 77 (by decide +kernel) rfl, mm_in1 6 (by decide +kernel) rfl, by decide, by decide⟩
theorem n_X8_30 : mm_nw RX8 30 5 5 [.null, .null, .null, .int 0, .int 0] := ⟨RX5, TX5, tyX5, rfl, w_f5, tyX5_ok, mm_in1 113 (by decide +kernel) rfl, mm_in1 114 (by decide +kernel) rfl, mm_in1 7 (by decide +kernel) rfl, by decide, by decide⟩
theorem n_X5_9 : mm_nw RX5 9 7 2 [.null, .int 0] := ⟨RX7, TX7, tyX7, rfl, w_f7, tyX7_ok, mm_in1 119 (by decide +kernel) rfl, mm_in1 77 (by decide +kernel) rfl, mm_in1 6 (by decide +kernel) rfl, by decide, by decide⟩
theorem n_X5_18 : mm_nw RX5 18 1 1 [.null] := ⟨RX1, TX1, tyX1, rfl, w_f1, tyX1_ok, mm_in1 121 (by decide +kernel) rfl, mm_in1 122 (by decide +kernel) rfl, mm_in1 8 (by decide +kernel) rfl, by decide, by decide⟩
theorem n_X1_9 : mm_nw RX1 9 7 2 [.null, .int 0] := ⟨RX7, TX7, tyX7, rfl, w_f7, tyX7_ok, mm_in1 127 (by decide +kernel) rfl, mm_in1 77 (by decide +kernel) rfl, mm_in1 6 (by decide +kernel) rfl, by decide, by decide⟩
theorem n_X8_37 : mm_nw RX8 37 2 1 [.null] := ⟨RX2, TX2, tyX2, rfl, w_f2, tyX2_ok, mm_in1 152 (by decide +kernel) rfl, mm_in1 153 (by decide +kernel) rfl, mm_in1 9 (by decide +kernel) rfl, by decide, by decide⟩
theorem n_X2_9 : mm_nw RX2 9 7 2 [.null, .int 0] := ⟨RX7, TX7, tyX7, rfl, w_f7, tyX7_ok, mm_in1 158 (by decide +kernel) rfl, mm_in1 77 (by decide +kernel) rfl, mm_in1 6 (by decide +kernel) rfl, by decide, by decide⟩
theorem n_X8_44 : mm_nw RX8 44 4 3 [.null, .null, .null] := ⟨RX4, TX4, tyX4, rfl, w_f4, tyX4_ok, mm_in1 164 (by decide +kernel) rfl, mm_in1 165 (by decide +kernel) rfl, mm_in1 10 (by decide +kernel) rfl, by decide, by decide⟩
theorem n_X4_9 : mm_nw RX4 9 7 2 [.null, .int 0] := ⟨RX7, TX7, tyX7, rfl, w_f7, tyX7_ok, mm_in1 170 (by decide +kernel) rfl, mm_in1 77 (by decide +kernel) rfl, mm_in1 6 (by decide +kernel) rfl, by decide, by decide⟩
theorem k_X7_23 : Cond.constant RX7 23 (1000000 : Int32) ∈ mm_W := mm_in1 180 (by decide +kernel) rfl
theorem k_X8_92 : Cond.constant RX8 92 (65536 : Int32) ∈ mm_W := mm_in2 116 (by decide +kernel) rfl
theorem k_X0_16 : Cond.constant RX0 16 (65537 : Int32) ∈ mm_W := mm_in2 133 (by decide +kernel) rfl
theorem k_X8_151 : Cond.constant RX8 151 (90000 : Int32) ∈ mm_W := mm_in2 187 (by decide +kernel) rfl
theorem k_X5_97 : Cond.constant RX5 97 (100000 : Int32) ∈ mm_W := mm_in3 26 (by decide +kernel) rfl
theorem k_L_7 : Cond.constant RL 7 (1000308295 : Int32) ∈ mm_W := mm_in3 85 (by decide +kernel) rfl
theorem k_L_8 : Cond.constant RL 8 (751363469 : Int32) ∈ mm_W := mm_in3 86 (by decide +kernel) rfl
theorem k_L_9 : Cond.constant RL 9 (2147483647 : Int32) ∈ mm_W := mm_in3 90 (by decide +kernel) rfl
theorem k_L_60 : Cond.constant RL 60 (100000 : Int32) ∈ mm_W := mm_in3 179 (by decide +kernel) rfl
theorem k_X1_30 : Cond.constant RX1 30 (100000 : Int32) ∈ mm_W := mm_in3 193 (by decide +kernel) rfl
theorem k_L_81 : Cond.constant RL 81 (65537 : Int32) ∈ mm_W := mm_in3 237 (by decide +kernel) rfl
theorem k_L_89 : Cond.constant RL 89 (40000 : Int32) ∈ mm_W := mm_in3 238 (by decide +kernel) rfl
theorem a_int : Cond.arrayClass .int ∈ mm_W := mm_in1 49 (by decide +kernel) rfl
theorem a_boolean : Cond.arrayClass .boolean ∈ mm_W := mm_in1 50 (by decide +kernel) rfl
