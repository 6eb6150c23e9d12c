theorem dX9_init_0 : decode cX9_init 0 = .ok (.aload_n 0, 1) := by decide +kernel
theorem dX9_init_1 : decode cX9_init 1 = .ok (.invokespecial 1, 3) := by decide +kernel
theorem dX9_init_4 : decode cX9_init 4 = .ok (.aload_n 0, 1) := by decide +kernel
theorem dX9_init_5 : decode cX9_init 5 = .ok (.bipush 100, 2) := by decide +kernel
theorem dX9_init_7 : decode cX9_init 7 = .ok (.newarray .boolean, 2) := by decide +kernel
theorem dX9_init_9 : decode cX9_init 9 = .ok (.putfield 7, 3) := by decide +kernel
theorem dX9_init_12 : decode cX9_init 12 = .ok (.aload_n 0, 1) := by decide +kernel
theorem dX9_init_13 : decode cX9_init 13 = .ok (.bipush 100, 2) := by decide +kernel
theorem dX9_init_15 : decode cX9_init 15 = .ok (.newarray .int, 2) := by decide +kernel
theorem dX9_init_17 : decode cX9_init 17 = .ok (.putfield 13, 3) := by decide +kernel
theorem dX9_init_20 : decode cX9_init 20 = .ok (.aload_n 0, 1) := by decide +kernel
theorem dX9_init_21 : decode cX9_init 21 = .ok (.bipush 100, 2) := by decide +kernel
theorem dX9_init_23 : decode cX9_init 23 = .ok (.newarray .int, 2) := by decide +kernel
theorem dX9_init_25 : decode cX9_init 25 = .ok (.putfield 17, 3) := by decide +kernel
theorem dX9_init_28 : decode cX9_init 28 = .ok (.aload_n 0, 1) := by decide +kernel
theorem dX9_init_29 : decode cX9_init 29 = .ok (.bipush 100, 2) := by decide +kernel
theorem dX9_init_31 : decode cX9_init 31 = .ok (.newarray .boolean, 2) := by decide +kernel
theorem dX9_init_33 : decode cX9_init 33 = .ok (.putfield 20, 3) := by decide +kernel
theorem dX9_init_36 : decode cX9_init 36 = .ok (.aload_n 0, 1) := by decide +kernel
theorem dX9_init_37 : decode cX9_init 37 = .ok (.bipush 100, 2) := by decide +kernel
theorem dX9_init_39 : decode cX9_init 39 = .ok (.newarray .int, 2) := by decide +kernel
theorem dX9_init_41 : decode cX9_init 41 = .ok (.putfield 23, 3) := by decide +kernel
theorem dX9_init_44 : decode cX9_init 44 = .ok (.aload_n 0, 1) := by decide +kernel
theorem dX9_init_45 : decode cX9_init 45 = .ok (.bipush 30, 2) := by decide +kernel
theorem dX9_init_47 : decode cX9_init 47 = .ok (.newarray .int, 2) := by decide +kernel
theorem dX9_init_49 : decode cX9_init 49 = .ok (.putfield 26, 3) := by decide +kernel
theorem dX9_init_52 : decode cX9_init 52 = .ok (.aload_n 0, 1) := by decide +kernel
theorem dX9_init_53 : decode cX9_init 53 = .ok (.iconst 3, 1) := by decide +kernel
theorem dX9_init_54 : decode cX9_init 54 = .ok (.newarray .int, 2) := by decide +kernel
theorem dX9_init_56 : decode cX9_init 56 = .ok (.putfield 29, 3) := by decide +kernel
theorem dX9_init_59 : decode cX9_init 59 = .ok (.aload_n 0, 1) := by decide +kernel
theorem dX9_init_60 : decode cX9_init 60 = .ok (.bipush 90, 2) := by decide +kernel
theorem dX9_init_62 : decode cX9_init 62 = .ok (.newarray .int, 2) := by decide +kernel
theorem dX9_init_64 : decode cX9_init 64 = .ok (.putfield 32, 3) := by decide +kernel
theorem dX9_init_67 : decode cX9_init 67 = .ok (.aload_n 0, 1) := by decide +kernel
theorem dX9_init_68 : decode cX9_init 68 = .ok (.bipush 90, 2) := by decide +kernel
theorem dX9_init_70 : decode cX9_init 70 = .ok (.newarray .int, 2) := by decide +kernel
theorem dX9_init_72 : decode cX9_init 72 = .ok (.putfield 35, 3) := by decide +kernel
theorem dX9_init_75 : decode cX9_init 75 = .ok (.aload_n 0, 1) := by decide +kernel
theorem dX9_init_76 : decode cX9_init 76 = .ok (.bipush 90, 2) := by decide +kernel
theorem dX9_init_78 : decode cX9_init 78 = .ok (.newarray .int, 2) := by decide +kernel
theorem dX9_init_80 : decode cX9_init 80 = .ok (.putfield 38, 3) := by decide +kernel
theorem dX9_init_83 : decode cX9_init 83 = .ok (.aload_n 0, 1) := by decide +kernel
theorem dX9_init_84 : decode cX9_init 84 = .ok (.bipush 32, 2) := by decide +kernel
theorem dX9_init_86 : decode cX9_init 86 = .ok (.newarray .int, 2) := by decide +kernel
theorem dX9_init_88 : decode cX9_init 88 = .ok (.putfield 41, 3) := by decide +kernel
theorem dX9_init_91 : decode cX9_init 91 = .ok (.aload_n 0, 1) := by decide +kernel
theorem dX9_init_92 : decode cX9_init 92 = .ok (.bipush 32, 2) := by decide +kernel
theorem dX9_init_94 : decode cX9_init 94 = .ok (.newarray .int, 2) := by decide +kernel
theorem dX9_init_96 : decode cX9_init 96 = .ok (.putfield 44, 3) := by decide +kernel
theorem dX9_init_99 : decode cX9_init 99 = .ok (.aload_n 0, 1) := by decide +kernel
theorem dX9_init_100 : decode cX9_init 100 = .ok (.bipush 32, 2) := by decide +kernel
theorem dX9_init_102 : decode cX9_init 102 = .ok (.newarray .int, 2) := by decide +kernel
theorem dX9_init_104 : decode cX9_init 104 = .ok (.putfield 47, 3) := by decide +kernel
theorem dX9_init_107 : decode cX9_init 107 = .ok (.aload_n 0, 1) := by decide +kernel
theorem dX9_init_108 : decode cX9_init 108 = .ok (.sipush 8192, 3) := by decide +kernel
theorem dX9_init_111 : decode cX9_init 111 = .ok (.newarray .int, 2) := by decide +kernel
theorem dX9_init_113 : decode cX9_init 113 = .ok (.putfield 50, 3) := by decide +kernel
theorem dX9_init_116 : decode cX9_init 116 = .ok (.aload_n 0, 1) := by decide +kernel
theorem dX9_init_117 : decode cX9_init 117 = .ok (.sipush 8192, 3) := by decide +kernel
theorem dX9_init_120 : decode cX9_init 120 = .ok (.newarray .int, 2) := by decide +kernel
theorem dX9_init_122 : decode cX9_init 122 = .ok (.putfield 53, 3) := by decide +kernel
theorem dX9_init_125 : decode cX9_init 125 = .ok (.aload_n 0, 1) := by decide +kernel
theorem dX9_init_126 : decode cX9_init 126 = .ok (.sipush 8192, 3) := by decide +kernel
theorem dX9_init_129 : decode cX9_init 129 = .ok (.newarray .int, 2) := by decide +kernel
theorem dX9_init_131 : decode cX9_init 131 = .ok (.putfield 56, 3) := by decide +kernel
theorem dX9_init_134 : decode cX9_init 134 = .ok (.aload_n 0, 1) := by decide +kernel
theorem dX9_init_135 : decode cX9_init 135 = .ok (.sipush 8192, 3) := by decide +kernel
theorem dX9_init_138 : decode cX9_init 138 = .ok (.newarray .int, 2) := by decide +kernel
theorem dX9_init_140 : decode cX9_init 140 = .ok (.putfield 59, 3) := by decide +kernel
theorem dX9_init_143 : decode cX9_init 143 = .ok (.aload_n 0, 1) := by decide +kernel
theorem dX9_init_144 : decode cX9_init 144 = .ok (.sipush 8192, 3) := by decide +kernel
theorem dX9_init_147 : decode cX9_init 147 = .ok (.newarray .int, 2) := by decide +kernel
theorem dX9_init_149 : decode cX9_init 149 = .ok (.putfield 62, 3) := by decide +kernel
theorem dX9_init_152 : decode cX9_init 152 = .ok (.aload_n 0, 1) := by decide +kernel
theorem dX9_init_153 : decode cX9_init 153 = .ok (.sipush 8192, 3) := by decide +kernel
theorem dX9_init_156 : decode cX9_init 156 = .ok (.newarray .int, 2) := by decide +kernel
theorem dX9_init_158 : decode cX9_init 158 = .ok (.putfield 65, 3) := by decide +kernel
theorem dX9_init_161 : decode cX9_init 161 = .ok (.aload_n 0, 1) := by decide +kernel
theorem dX9_init_162 : decode cX9_init 162 = .ok (.sipush 8192, 3) := by decide +kernel
theorem dX9_init_165 : decode cX9_init 165 = .ok (.newarray .int, 2) := by decide +kernel
theorem dX9_init_167 : decode cX9_init 167 = .ok (.putfield 68, 3) := by decide +kernel
theorem dX9_init_170 : decode cX9_init 170 = .ok (.aload_n 0, 1) := by decide +kernel
theorem dX9_init_171 : decode cX9_init 171 = .ok (.sipush 8192, 3) := by decide +kernel
theorem dX9_init_174 : decode cX9_init 174 = .ok (.newarray .int, 2) := by decide +kernel
theorem dX9_init_176 : decode cX9_init 176 = .ok (.putfield 71, 3) := by decide +kernel
theorem dX9_init_179 : decode cX9_init 179 = .ok (.aload_n 0, 1) := by decide +kernel
theorem dX9_init_180 : decode cX9_init 180 = .ok (.bipush 100, 2) := by decide +kernel
theorem dX9_init_182 : decode cX9_init 182 = .ok (.newarray .int, 2) := by decide +kernel
theorem dX9_init_184 : decode cX9_init 184 = .ok (.putfield 74, 3) := by decide +kernel
theorem dX9_init_187 : decode cX9_init 187 = .ok (.aload_n 0, 1) := by decide +kernel
theorem dX9_init_188 : decode cX9_init 188 = .ok (.iconst 4, 1) := by decide +kernel
theorem dX9_init_189 : decode cX9_init 189 = .ok (.newarray .int, 2) := by decide +kernel
theorem dX9_init_191 : decode cX9_init 191 = .ok (.putfield 77, 3) := by decide +kernel
theorem dX9_init_194 : decode cX9_init 194 = .ok (.aload_n 0, 1) := by decide +kernel
theorem dX9_init_195 : decode cX9_init 195 = .ok (.iconst 4, 1) := by decide +kernel
theorem dX9_init_196 : decode cX9_init 196 = .ok (.newarray .int, 2) := by decide +kernel
theorem dX9_init_198 : decode cX9_init 198 = .ok (.putfield 80, 3) := by decide +kernel
theorem dX9_init_201 : decode cX9_init 201 = .ok (.aload_n 0, 1) := by decide +kernel
theorem dX9_init_202 : decode cX9_init 202 = .ok (.iconst 4, 1) := by decide +kernel
theorem dX9_init_203 : decode cX9_init 203 = .ok (.newarray .int, 2) := by decide +kernel
theorem dX9_init_205 : decode cX9_init 205 = .ok (.putfield 83, 3) := by decide +kernel
theorem dX9_init_208 : decode cX9_init 208 = .ok (.aload_n 0, 1) := by decide +kernel
theorem dX9_init_209 : decode cX9_init 209 = .ok (.iconst 4, 1) := by decide +kernel
theorem dX9_init_210 : decode cX9_init 210 = .ok (.newarray .int, 2) := by decide +kernel
theorem dX9_init_212 : decode cX9_init 212 = .ok (.putfield 86, 3) := by decide +kernel
theorem dX9_init_215 : decode cX9_init 215 = .ok (.aload_n 0, 1) := by decide +kernel
theorem dX9_init_216 : decode cX9_init 216 = .ok (.iconst 1, 1) := by decide +kernel
theorem dX9_init_217 : decode cX9_init 217 = .ok (.putfield 89, 3) := by decide +kernel
theorem dX9_init_220 : decode cX9_init 220 = .ok (.aload_n 0, 1) := by decide +kernel
theorem dX9_init_221 : decode cX9_init 221 = .ok (.bipush 6, 2) := by decide +kernel
theorem dX9_init_223 : decode cX9_init 223 = .ok (.newarray .int, 2) := by decide +kernel
theorem dX9_init_225 : decode cX9_init 225 = .ok (.putfield 93, 3) := by decide +kernel
theorem dX9_init_228 : decode cX9_init 228 = .ok (.aload_n 0, 1) := by decide +kernel
theorem dX9_init_229 : decode cX9_init 229 = .ok (.bipush 6, 2) := by decide +kernel
theorem dX9_init_231 : decode cX9_init 231 = .ok (.newarray .int, 2) := by decide +kernel
theorem dX9_init_233 : decode cX9_init 233 = .ok (.putfield 96, 3) := by decide +kernel
theorem dX9_init_236 : decode cX9_init 236 = .ok (.aload_n 0, 1) := by decide +kernel
theorem dX9_init_237 : decode cX9_init 237 = .ok (.bipush 6, 2) := by decide +kernel
theorem dX9_init_239 : decode cX9_init 239 = .ok (.newarray .int, 2) := by decide +kernel
theorem dX9_init_241 : decode cX9_init 241 = .ok (.putfield 99, 3) := by decide +kernel
theorem dX9_init_244 : decode cX9_init 244 = .ok (.aload_n 0, 1) := by decide +kernel
theorem dX9_init_245 : decode cX9_init 245 = .ok (.bipush 6, 2) := by decide +kernel
theorem dX9_init_247 : decode cX9_init 247 = .ok (.newarray .boolean, 2) := by decide +kernel
theorem dX9_init_249 : decode cX9_init 249 = .ok (.putfield 102, 3) := by decide +kernel
theorem dX9_init_252 : decode cX9_init 252 = .ok (.aload_n 0, 1) := by decide +kernel
theorem dX9_init_253 : decode cX9_init 253 = .ok (.bipush 10, 2) := by decide +kernel
theorem dX9_init_255 : decode cX9_init 255 = .ok (.newarray .int, 2) := by decide +kernel
theorem dX9_init_257 : decode cX9_init 257 = .ok (.putfield 105, 3) := by decide +kernel
theorem dX9_init_260 : decode cX9_init 260 = .ok (.aload_n 0, 1) := by decide +kernel
theorem dX9_init_261 : decode cX9_init 261 = .ok (.bipush 10, 2) := by decide +kernel
theorem dX9_init_263 : decode cX9_init 263 = .ok (.newarray .int, 2) := by decide +kernel
theorem dX9_init_265 : decode cX9_init 265 = .ok (.putfield 108, 3) := by decide +kernel
theorem dX9_init_268 : decode cX9_init 268 = .ok (.aload_n 0, 1) := by decide +kernel
theorem dX9_init_269 : decode cX9_init 269 = .ok (.bipush 10, 2) := by decide +kernel
theorem dX9_init_271 : decode cX9_init 271 = .ok (.newarray .int, 2) := by decide +kernel
theorem dX9_init_273 : decode cX9_init 273 = .ok (.putfield 111, 3) := by decide +kernel
theorem dX9_init_276 : decode cX9_init 276 = .ok (.aload_n 0, 1) := by decide +kernel
theorem dX9_init_277 : decode cX9_init 277 = .ok (.bipush 10, 2) := by decide +kernel
theorem dX9_init_279 : decode cX9_init 279 = .ok (.newarray .int, 2) := by decide +kernel
theorem dX9_init_281 : decode cX9_init 281 = .ok (.putfield 114, 3) := by decide +kernel
theorem dX9_init_284 : decode cX9_init 284 = .ok (.aload_n 0, 1) := by decide +kernel
theorem dX9_init_285 : decode cX9_init 285 = .ok (.iconst 4, 1) := by decide +kernel
theorem dX9_init_286 : decode cX9_init 286 = .ok (.newarray .int, 2) := by decide +kernel
theorem dX9_init_288 : decode cX9_init 288 = .ok (.putfield 117, 3) := by decide +kernel
theorem dX9_init_291 : decode cX9_init 291 = .ok (.aload_n 0, 1) := by decide +kernel
theorem dX9_init_292 : decode cX9_init 292 = .ok (.getfield 96, 3) := by decide +kernel
theorem dX9_init_295 : decode cX9_init 295 = .ok (.iconst 0, 1) := by decide +kernel
theorem dX9_init_296 : decode cX9_init 296 = .ok (.iconst 1, 1) := by decide +kernel
theorem dX9_init_297 : decode cX9_init 297 = .ok (.iastore, 1) := by decide +kernel
theorem dX9_init_298 : decode cX9_init 298 = .ok (.aload_n 0, 1) := by decide +kernel
theorem dX9_init_299 : decode cX9_init 299 = .ok (.getfield 99, 3) := by decide +kernel
theorem dX9_init_302 : decode cX9_init 302 = .ok (.iconst 0, 1) := by decide +kernel
theorem dX9_init_303 : decode cX9_init 303 = .ok (.bipush 8, 2) := by decide +kernel
theorem dX9_init_305 : decode cX9_init 305 = .ok (.iastore, 1) := by decide +kernel
theorem dX9_init_306 : decode cX9_init 306 = .ok (.return_, 1) := by decide +kernel
theorem dX9_thrown_0 : decode cX9_thrown 0 = .ok (.aload_n 0, 1) := by decide +kernel
theorem dX9_thrown_1 : decode cX9_thrown 1 = .ok (.getfield 120, 3) := by decide +kernel
theorem dX9_thrown_4 : decode cX9_thrown 4 = .ok (.ireturn, 1) := by decide +kernel
theorem dX9_isIn_0 : decode cX9_isIn 0 = .ok (.iload_n 0, 1) := by decide +kernel
theorem dX9_isIn_1 : decode cX9_isIn 1 = .ok (.iload_n 1, 1) := by decide +kernel
theorem dX9_isIn_2 : decode cX9_isIn 2 = .ok (.if_icmp .lt 12, 3) := by decide +kernel
theorem dX9_isIn_5 : decode cX9_isIn 5 = .ok (.iload_n 0, 1) := by decide +kernel
theorem dX9_isIn_6 : decode cX9_isIn 6 = .ok (.iload_n 2, 1) := by decide +kernel
theorem dX9_isIn_7 : decode cX9_isIn 7 = .ok (.if_icmp .gt 7, 3) := by decide +kernel
theorem dX9_isIn_10 : decode cX9_isIn 10 = .ok (.iconst 1, 1) := by decide +kernel
theorem dX9_isIn_11 : decode cX9_isIn 11 = .ok (.goto 4, 3) := by decide +kernel
theorem dX9_isIn_14 : decode cX9_isIn 14 = .ok (.iconst 0, 1) := by decide +kernel
theorem dX9_isIn_15 : decode cX9_isIn 15 = .ok (.ireturn, 1) := by decide +kernel
theorem dX9_isCell_0 : decode cX9_isCell 0 = .ok (.iload_n 0, 1) := by decide +kernel
theorem dX9_isCell_1 : decode cX9_isCell 1 = .ok (.iconst 0, 1) := by decide +kernel
theorem dX9_isCell_2 : decode cX9_isCell 2 = .ok (.bipush 99, 2) := by decide +kernel
theorem dX9_isCell_4 : decode cX9_isCell 4 = .ok (.invokestatic 123, 3) := by decide +kernel
theorem dX9_isCell_7 : decode cX9_isCell 7 = .ok (.ireturn, 1) := by decide +kernel
theorem dX9_depthOf_0 : decode cX9_depthOf 0 = .ok (.aload_n 0, 1) := by decide +kernel
theorem dX9_depthOf_1 : decode cX9_depthOf 1 = .ok (.getfield 7, 3) := by decide +kernel
theorem dX9_depthOf_4 : decode cX9_depthOf 4 = .ok (.iload_n 1, 1) := by decide +kernel
theorem dX9_depthOf_5 : decode cX9_depthOf 5 = .ok (.baload, 1) := by decide +kernel
theorem dX9_depthOf_6 : decode cX9_depthOf 6 = .ok (.ifCond .eq 12, 3) := by decide +kernel
theorem dX9_depthOf_9 : decode cX9_depthOf 9 = .ok (.aload_n 0, 1) := by decide +kernel
theorem dX9_depthOf_10 : decode cX9_depthOf 10 = .ok (.getfield 17, 3) := by decide +kernel
theorem dX9_depthOf_13 : decode cX9_depthOf 13 = .ok (.iload_n 1, 1) := by decide +kernel
theorem dX9_depthOf_14 : decode cX9_depthOf 14 = .ok (.iaload, 1) := by decide +kernel
theorem dX9_depthOf_15 : decode cX9_depthOf 15 = .ok (.goto 5, 3) := by decide +kernel
theorem dX9_depthOf_18 : decode cX9_depthOf 18 = .ok (.bipush 100, 2) := by decide +kernel
theorem dX9_depthOf_20 : decode cX9_depthOf 20 = .ok (.ireturn, 1) := by decide +kernel
theorem dX9_ground_0 : decode cX9_ground 0 = .ok (.aload_n 0, 1) := by decide +kernel
theorem dX9_ground_1 : decode cX9_ground 1 = .ok (.iload_n 1, 1) := by decide +kernel
theorem dX9_ground_2 : decode cX9_ground 2 = .ok (.invokevirtual 127, 3) := by decide +kernel
theorem dX9_ground_5 : decode cX9_ground 5 = .ok (.iload_n 1, 1) := by decide +kernel
theorem dX9_ground_6 : decode cX9_ground 6 = .ok (.ifCond .ne 7, 3) := by decide +kernel
theorem dX9_ground_9 : decode cX9_ground 9 = .ok (.iconst 0, 1) := by decide +kernel
theorem dX9_ground_10 : decode cX9_ground 10 = .ok (.goto 10, 3) := by decide +kernel
theorem dX9_ground_13 : decode cX9_ground 13 = .ok (.aload_n 0, 1) := by decide +kernel
theorem dX9_ground_14 : decode cX9_ground 14 = .ok (.iload_n 1, 1) := by decide +kernel
theorem dX9_ground_15 : decode cX9_ground 15 = .ok (.iconst 1, 1) := by decide +kernel
theorem dX9_ground_16 : decode cX9_ground 16 = .ok (.isub, 1) := by decide +kernel
theorem dX9_ground_17 : decode cX9_ground 17 = .ok (.invokevirtual 127, 3) := by decide +kernel
theorem dX9_ground_20 : decode cX9_ground 20 = .ok (.isub, 1) := by decide +kernel
theorem dX9_ground_21 : decode cX9_ground 21 = .ok (.istore_n 2, 1) := by decide +kernel
theorem dX9_ground_22 : decode cX9_ground 22 = .ok (.sipush 1000, 3) := by decide +kernel
theorem dX9_ground_25 : decode cX9_ground 25 = .ok (.iload_n 2, 1) := by decide +kernel
theorem dX9_ground_26 : decode cX9_ground 26 = .ok (.iload_n 2, 1) := by decide +kernel
theorem dX9_ground_27 : decode cX9_ground 27 = .ok (.imul, 1) := by decide +kernel
theorem dX9_ground_28 : decode cX9_ground 28 = .ok (.sipush 2000, 3) := by decide +kernel
theorem dX9_ground_31 : decode cX9_ground 31 = .ok (.idiv, 1) := by decide +kernel
theorem dX9_ground_32 : decode cX9_ground 32 = .ok (.iadd, 1) := by decide +kernel
theorem dX9_ground_33 : decode cX9_ground 33 = .ok (.ireturn, 1) := by decide +kernel
theorem dX9_sound_0 : decode cX9_sound 0 = .ok (.iload_n 1, 1) := by decide +kernel
theorem dX9_sound_1 : decode cX9_sound 1 = .ok (.invokestatic 131, 3) := by decide +kernel
theorem dX9_sound_4 : decode cX9_sound 4 = .ok (.ifCond .eq 29, 3) := by decide +kernel
theorem dX9_sound_7 : decode cX9_sound 7 = .ok (.iload_n 2, 1) := by decide +kernel
theorem dX9_sound_8 : decode cX9_sound 8 = .ok (.iconst 0, 1) := by decide +kernel
theorem dX9_sound_9 : decode cX9_sound 9 = .ok (.sipush 6000, 3) := by decide +kernel
theorem dX9_sound_12 : decode cX9_sound 12 = .ok (.invokestatic 123, 3) := by decide +kernel
theorem dX9_sound_15 : decode cX9_sound 15 = .ok (.ifCond .eq 18, 3) := by decide +kernel
theorem dX9_sound_18 : decode cX9_sound 18 = .ok (.iload_n 3, 1) := by decide +kernel
theorem dX9_sound_19 : decode cX9_sound 19 = .ok (.iconst 0, 1) := by decide +kernel
theorem dX9_sound_20 : decode cX9_sound 20 = .ok (.sipush 500, 3) := by decide +kernel
theorem dX9_sound_23 : decode cX9_sound 23 = .ok (.invokestatic 123, 3) := by decide +kernel
theorem dX9_sound_26 : decode cX9_sound 26 = .ok (.ifCond .eq 7, 3) := by decide +kernel
theorem dX9_sound_29 : decode cX9_sound 29 = .ok (.iconst 1, 1) := by decide +kernel
theorem dX9_sound_30 : decode cX9_sound 30 = .ok (.goto 4, 3) := by decide +kernel
theorem dX9_sound_33 : decode cX9_sound 33 = .ok (.iconst 0, 1) := by decide +kernel
theorem dX9_sound_34 : decode cX9_sound 34 = .ok (.istore 4, 2) := by decide +kernel
theorem dX9_sound_36 : decode cX9_sound 36 = .ok (.aload_n 0, 1) := by decide +kernel
theorem dX9_sound_37 : decode cX9_sound 37 = .ok (.iload 4, 2) := by decide +kernel
theorem dX9_sound_39 : decode cX9_sound 39 = .ok (.ifCond .ne 7, 3) := by decide +kernel
theorem dX9_sound_42 : decode cX9_sound 42 = .ok (.iconst 1, 1) := by decide +kernel
theorem dX9_sound_43 : decode cX9_sound 43 = .ok (.goto 16, 3) := by decide +kernel
theorem dX9_sound_46 : decode cX9_sound 46 = .ok (.iload_n 1, 1) := by decide +kernel
theorem dX9_sound_47 : decode cX9_sound 47 = .ok (.aload_n 0, 1) := by decide +kernel
theorem dX9_sound_48 : decode cX9_sound 48 = .ok (.getfield 135, 3) := by decide +kernel
theorem dX9_sound_51 : decode cX9_sound 51 = .ok (.if_icmp .ge 7, 3) := by decide +kernel
theorem dX9_sound_54 : decode cX9_sound 54 = .ok (.iconst 2, 1) := by decide +kernel
theorem dX9_sound_55 : decode cX9_sound 55 = .ok (.goto 4, 3) := by decide +kernel
theorem dX9_sound_58 : decode cX9_sound 58 = .ok (.iconst 0, 1) := by decide +kernel
theorem dX9_sound_59 : decode cX9_sound 59 = .ok (.putfield 120, 3) := by decide +kernel
theorem dX9_sound_62 : decode cX9_sound 62 = .ok (.aload_n 0, 1) := by decide +kernel
theorem dX9_sound_63 : decode cX9_sound 63 = .ok (.getfield 120, 3) := by decide +kernel
theorem dX9_sound_66 : decode cX9_sound 66 = .ok (.ifCond .le 5, 3) := by decide +kernel
theorem dX9_sound_69 : decode cX9_sound 69 = .ok (.iconst 0, 1) := by decide +kernel
theorem dX9_sound_70 : decode cX9_sound 70 = .ok (.ireturn, 1) := by decide +kernel
theorem dX9_sound_71 : decode cX9_sound 71 = .ok (.aload_n 0, 1) := by decide +kernel
theorem dX9_sound_72 : decode cX9_sound 72 = .ok (.getfield 7, 3) := by decide +kernel
theorem dX9_sound_75 : decode cX9_sound 75 = .ok (.iload_n 1, 1) := by decide +kernel
theorem dX9_sound_76 : decode cX9_sound 76 = .ok (.baload, 1) := by decide +kernel
theorem dX9_sound_77 : decode cX9_sound 77 = .ok (.ifCond .eq 13, 3) := by decide +kernel
theorem dX9_sound_80 : decode cX9_sound 80 = .ok (.iload_n 3, 1) := by decide +kernel
theorem dX9_sound_81 : decode cX9_sound 81 = .ok (.aload_n 0, 1) := by decide +kernel
theorem dX9_sound_82 : decode cX9_sound 82 = .ok (.getfield 13, 3) := by decide +kernel
theorem dX9_sound_85 : decode cX9_sound 85 = .ok (.iload_n 1, 1) := by decide +kernel
theorem dX9_sound_86 : decode cX9_sound 86 = .ok (.iaload, 1) := by decide +kernel
theorem dX9_sound_87 : decode cX9_sound 87 = .ok (.if_icmp .gt 24, 3) := by decide +kernel
theorem dX9_sound_90 : decode cX9_sound 90 = .ok (.aload_n 0, 1) := by decide +kernel
theorem dX9_sound_91 : decode cX9_sound 91 = .ok (.getfield 7, 3) := by decide +kernel
theorem dX9_sound_94 : decode cX9_sound 94 = .ok (.iload_n 1, 1) := by decide +kernel
theorem dX9_sound_95 : decode cX9_sound 95 = .ok (.iconst 1, 1) := by decide +kernel
theorem dX9_sound_96 : decode cX9_sound 96 = .ok (.bastore, 1) := by decide +kernel
theorem dX9_sound_97 : decode cX9_sound 97 = .ok (.aload_n 0, 1) := by decide +kernel
theorem dX9_sound_98 : decode cX9_sound 98 = .ok (.getfield 13, 3) := by decide +kernel
theorem dX9_sound_101 : decode cX9_sound 101 = .ok (.iload_n 1, 1) := by decide +kernel
theorem dX9_sound_102 : decode cX9_sound 102 = .ok (.iload_n 3, 1) := by decide +kernel
theorem dX9_sound_103 : decode cX9_sound 103 = .ok (.iastore, 1) := by decide +kernel
theorem dX9_sound_104 : decode cX9_sound 104 = .ok (.aload_n 0, 1) := by decide +kernel
theorem dX9_sound_105 : decode cX9_sound 105 = .ok (.getfield 17, 3) := by decide +kernel
theorem dX9_sound_108 : decode cX9_sound 108 = .ok (.iload_n 1, 1) := by decide +kernel
theorem dX9_sound_109 : decode cX9_sound 109 = .ok (.iload_n 2, 1) := by decide +kernel
theorem dX9_sound_110 : decode cX9_sound 110 = .ok (.iastore, 1) := by decide +kernel
theorem dX9_sound_111 : decode cX9_sound 111 = .ok (.aload_n 0, 1) := by decide +kernel
theorem dX9_sound_112 : decode cX9_sound 112 = .ok (.iload_n 1, 1) := by decide +kernel
theorem dX9_sound_113 : decode cX9_sound 113 = .ok (.invokevirtual 127, 3) := by decide +kernel
theorem dX9_sound_116 : decode cX9_sound 116 = .ok (.ireturn, 1) := by decide +kernel
theorem dX9_wreck_0 : decode cX9_wreck 0 = .ok (.aload_n 0, 1) := by decide +kernel
theorem dX9_wreck_1 : decode cX9_wreck 1 = .ok (.iload_n 1, 1) := by decide +kernel
theorem dX9_wreck_2 : decode cX9_wreck 2 = .ok (.invokestatic 131, 3) := by decide +kernel
theorem dX9_wreck_5 : decode cX9_wreck 5 = .ok (.ifCond .eq 7, 3) := by decide +kernel
theorem dX9_wreck_8 : decode cX9_wreck 8 = .ok (.iconst 0, 1) := by decide +kernel
theorem dX9_wreck_9 : decode cX9_wreck 9 = .ok (.goto 4, 3) := by decide +kernel
theorem dX9_wreck_12 : decode cX9_wreck 12 = .ok (.iconst 1, 1) := by decide +kernel
theorem dX9_wreck_13 : decode cX9_wreck 13 = .ok (.putfield 120, 3) := by decide +kernel
theorem dX9_wreck_16 : decode cX9_wreck 16 = .ok (.aload_n 0, 1) := by decide +kernel
theorem dX9_wreck_17 : decode cX9_wreck 17 = .ok (.getfield 120, 3) := by decide +kernel
theorem dX9_wreck_20 : decode cX9_wreck 20 = .ok (.ifCond .le 5, 3) := by decide +kernel
theorem dX9_wreck_23 : decode cX9_wreck 23 = .ok (.iconst 0, 1) := by decide +kernel
theorem dX9_wreck_24 : decode cX9_wreck 24 = .ok (.ireturn, 1) := by decide +kernel
theorem dX9_wreck_25 : decode cX9_wreck 25 = .ok (.aload_n 0, 1) := by decide +kernel
theorem dX9_wreck_26 : decode cX9_wreck 26 = .ok (.getfield 20, 3) := by decide +kernel
theorem dX9_wreck_29 : decode cX9_wreck 29 = .ok (.iload_n 1, 1) := by decide +kernel
theorem dX9_wreck_30 : decode cX9_wreck 30 = .ok (.baload, 1) := by decide +kernel
theorem dX9_wreck_31 : decode cX9_wreck 31 = .ok (.istore_n 3, 1) := by decide +kernel
theorem dX9_wreck_32 : decode cX9_wreck 32 = .ok (.aload_n 0, 1) := by decide +kernel
theorem dX9_wreck_33 : decode cX9_wreck 33 = .ok (.getfield 20, 3) := by decide +kernel
theorem dX9_wreck_36 : decode cX9_wreck 36 = .ok (.iload_n 1, 1) := by decide +kernel
theorem dX9_wreck_37 : decode cX9_wreck 37 = .ok (.iload_n 2, 1) := by decide +kernel
theorem dX9_wreck_38 : decode cX9_wreck 38 = .ok (.bastore, 1) := by decide +kernel
theorem dX9_wreck_39 : decode cX9_wreck 39 = .ok (.iload_n 3, 1) := by decide +kernel
theorem dX9_wreck_40 : decode cX9_wreck 40 = .ok (.ireturn, 1) := by decide +kernel
theorem dX9_crossing_0 : decode cX9_crossing 0 = .ok (.aload_n 0, 1) := by decide +kernel
theorem dX9_crossing_1 : decode cX9_crossing 1 = .ok (.iload_n 1, 1) := by decide +kernel
theorem dX9_crossing_2 : decode cX9_crossing 2 = .ok (.invokestatic 131, 3) := by decide +kernel
theorem dX9_crossing_5 : decode cX9_crossing 5 = .ok (.ifCond .eq 16, 3) := by decide +kernel
theorem dX9_crossing_8 : decode cX9_crossing 8 = .ok (.iload_n 2, 1) := by decide +kernel
theorem dX9_crossing_9 : decode cX9_crossing 9 = .ok (.iconst 0, 1) := by decide +kernel
theorem dX9_crossing_10 : decode cX9_crossing 10 = .ok (.iconst 2, 1) := by decide +kernel
theorem dX9_crossing_11 : decode cX9_crossing 11 = .ok (.invokestatic 123, 3) := by decide +kernel
theorem dX9_crossing_14 : decode cX9_crossing 14 = .ok (.ifCond .eq 7, 3) := by decide +kernel
theorem dX9_crossing_17 : decode cX9_crossing 17 = .ok (.iconst 0, 1) := by decide +kernel
theorem dX9_crossing_18 : decode cX9_crossing 18 = .ok (.goto 4, 3) := by decide +kernel
theorem dX9_crossing_21 : decode cX9_crossing 21 = .ok (.iconst 1, 1) := by decide +kernel
theorem dX9_crossing_22 : decode cX9_crossing 22 = .ok (.putfield 120, 3) := by decide +kernel
theorem dX9_crossing_25 : decode cX9_crossing 25 = .ok (.aload_n 0, 1) := by decide +kernel
theorem dX9_crossing_26 : decode cX9_crossing 26 = .ok (.getfield 120, 3) := by decide +kernel
theorem dX9_crossing_29 : decode cX9_crossing 29 = .ok (.ifCond .le 5, 3) := by decide +kernel
theorem dX9_crossing_32 : decode cX9_crossing 32 = .ok (.iconst 0, 1) := by decide +kernel
theorem dX9_crossing_33 : decode cX9_crossing 33 = .ok (.ireturn, 1) := by decide +kernel
theorem dX9_crossing_34 : decode cX9_crossing 34 = .ok (.aload_n 0, 1) := by decide +kernel
theorem dX9_crossing_35 : decode cX9_crossing 35 = .ok (.getfield 23, 3) := by decide +kernel
theorem dX9_crossing_38 : decode cX9_crossing 38 = .ok (.iload_n 1, 1) := by decide +kernel
theorem dX9_crossing_39 : decode cX9_crossing 39 = .ok (.iaload, 1) := by decide +kernel
theorem dX9_crossing_40 : decode cX9_crossing 40 = .ok (.istore_n 3, 1) := by decide +kernel
theorem dX9_crossing_41 : decode cX9_crossing 41 = .ok (.aload_n 0, 1) := by decide +kernel
theorem dX9_crossing_42 : decode cX9_crossing 42 = .ok (.getfield 23, 3) := by decide +kernel
theorem dX9_crossing_45 : decode cX9_crossing 45 = .ok (.iload_n 1, 1) := by decide +kernel
theorem dX9_crossing_46 : decode cX9_crossing 46 = .ok (.iload_n 2, 1) := by decide +kernel
theorem dX9_crossing_47 : decode cX9_crossing 47 = .ok (.iastore, 1) := by decide +kernel
theorem dX9_crossing_48 : decode cX9_crossing 48 = .ok (.iload_n 3, 1) := by decide +kernel
theorem dX9_crossing_49 : decode cX9_crossing 49 = .ok (.ireturn, 1) := by decide +kernel
theorem dX9_weather_0 : decode cX9_weather 0 = .ok (.aload_n 0, 1) := by decide +kernel
theorem dX9_weather_1 : decode cX9_weather 1 = .ok (.iload_n 1, 1) := by decide +kernel
theorem dX9_weather_2 : decode cX9_weather 2 = .ok (.iconst 0, 1) := by decide +kernel
theorem dX9_weather_3 : decode cX9_weather 3 = .ok (.ldc 138, 2) := by decide +kernel
theorem dX9_weather_5 : decode cX9_weather 5 = .ok (.invokestatic 123, 3) := by decide +kernel
theorem dX9_weather_8 : decode cX9_weather 8 = .ok (.ifCond .ne 7, 3) := by decide +kernel
theorem dX9_weather_11 : decode cX9_weather 11 = .ok (.iconst 1, 1) := by decide +kernel
theorem dX9_weather_12 : decode cX9_weather 12 = .ok (.goto 15, 3) := by decide +kernel
theorem dX9_weather_15 : decode cX9_weather 15 = .ok (.aload_n 0, 1) := by decide +kernel
theorem dX9_weather_16 : decode cX9_weather 16 = .ok (.getfield 139, 3) := by decide +kernel
theorem dX9_weather_19 : decode cX9_weather 19 = .ok (.ifCond .le 7, 3) := by decide +kernel
theorem dX9_weather_22 : decode cX9_weather 22 = .ok (.iconst 2, 1) := by decide +kernel
theorem dX9_weather_23 : decode cX9_weather 23 = .ok (.goto 4, 3) := by decide +kernel
theorem dX9_weather_26 : decode cX9_weather 26 = .ok (.iconst 0, 1) := by decide +kernel
theorem dX9_weather_27 : decode cX9_weather 27 = .ok (.putfield 120, 3) := by decide +kernel
theorem dX9_weather_30 : decode cX9_weather 30 = .ok (.aload_n 0, 1) := by decide +kernel
theorem dX9_weather_31 : decode cX9_weather 31 = .ok (.getfield 120, 3) := by decide +kernel
theorem dX9_weather_34 : decode cX9_weather 34 = .ok (.ifCond .le 5, 3) := by decide +kernel
theorem dX9_weather_37 : decode cX9_weather 37 = .ok (.iconst 0, 1) := by decide +kernel
theorem dX9_weather_38 : decode cX9_weather 38 = .ok (.ireturn, 1) := by decide +kernel
theorem dX9_weather_39 : decode cX9_weather 39 = .ok (.aload_n 0, 1) := by decide +kernel
theorem dX9_weather_40 : decode cX9_weather 40 = .ok (.iload_n 1, 1) := by decide +kernel
theorem dX9_weather_41 : decode cX9_weather 41 = .ok (.putfield 142, 3) := by decide +kernel
theorem dX9_weather_44 : decode cX9_weather 44 = .ok (.aload_n 0, 1) := by decide +kernel
theorem dX9_weather_45 : decode cX9_weather 45 = .ok (.getfield 142, 3) := by decide +kernel
theorem dX9_weather_48 : decode cX9_weather 48 = .ok (.bipush 10, 2) := by decide +kernel
theorem dX9_weather_50 : decode cX9_weather 50 = .ok (.irem, 1) := by decide +kernel
theorem dX9_weather_51 : decode cX9_weather 51 = .ok (.ireturn, 1) := by decide +kernel
theorem dX9_liesAtB_0 : decode cX9_liesAtB 0 = .ok (.aload_n 0, 1) := by decide +kernel
theorem dX9_liesAtB_1 : decode cX9_liesAtB 1 = .ok (.getfield 135, 3) := by decide +kernel
theorem dX9_liesAtB_4 : decode cX9_liesAtB 4 = .ok (.bipush 100, 2) := by decide +kernel
theorem dX9_liesAtB_6 : decode cX9_liesAtB 6 = .ok (.if_icmp .ne 7, 3) := by decide +kernel
theorem dX9_liesAtB_9 : decode cX9_liesAtB 9 = .ok (.iconst 1, 1) := by decide +kernel
theorem dX9_liesAtB_10 : decode cX9_liesAtB 10 = .ok (.goto 4, 3) := by decide +kernel
theorem dX9_liesAtB_13 : decode cX9_liesAtB 13 = .ok (.iconst 0, 1) := by decide +kernel
theorem dX9_liesAtB_14 : decode cX9_liesAtB 14 = .ok (.ireturn, 1) := by decide +kernel
theorem dX9_pass_0 : decode cX9_pass 0 = .ok (.aload_n 0, 1) := by decide +kernel
theorem dX9_pass_1 : decode cX9_pass 1 = .ok (.iload_n 1, 1) := by decide +kernel
theorem dX9_pass_2 : decode cX9_pass 2 = .ok (.iconst 1, 1) := by decide +kernel
theorem dX9_pass_3 : decode cX9_pass 3 = .ok (.sipush 400, 3) := by decide +kernel
theorem dX9_pass_6 : decode cX9_pass 6 = .ok (.invokestatic 123, 3) := by decide +kernel
theorem dX9_pass_9 : decode cX9_pass 9 = .ok (.ifCond .ne 7, 3) := by decide +kernel
theorem dX9_pass_12 : decode cX9_pass 12 = .ok (.iconst 1, 1) := by decide +kernel
theorem dX9_pass_13 : decode cX9_pass 13 = .ok (.goto 20, 3) := by decide +kernel
theorem dX9_pass_16 : decode cX9_pass 16 = .ok (.aload_n 0, 1) := by decide +kernel
theorem dX9_pass_17 : decode cX9_pass 17 = .ok (.getfield 139, 3) := by decide +kernel
theorem dX9_pass_20 : decode cX9_pass 20 = .ok (.iload_n 1, 1) := by decide +kernel
theorem dX9_pass_21 : decode cX9_pass 21 = .ok (.iadd, 1) := by decide +kernel
theorem dX9_pass_22 : decode cX9_pass 22 = .ok (.sipush 20000, 3) := by decide +kernel
theorem dX9_pass_25 : decode cX9_pass 25 = .ok (.if_icmp .le 7, 3) := by decide +kernel
theorem dX9_pass_28 : decode cX9_pass 28 = .ok (.iconst 2, 1) := by decide +kernel
theorem dX9_pass_29 : decode cX9_pass 29 = .ok (.goto 4, 3) := by decide +kernel
theorem dX9_pass_32 : decode cX9_pass 32 = .ok (.iconst 0, 1) := by decide +kernel
theorem dX9_pass_33 : decode cX9_pass 33 = .ok (.putfield 120, 3) := by decide +kernel
theorem dX9_pass_36 : decode cX9_pass 36 = .ok (.iconst 0, 1) := by decide +kernel
theorem dX9_pass_37 : decode cX9_pass 37 = .ok (.istore_n 2, 1) := by decide +kernel
theorem dX9_pass_38 : decode cX9_pass 38 = .ok (.iload_n 2, 1) := by decide +kernel
theorem dX9_pass_39 : decode cX9_pass 39 = .ok (.iload_n 1, 1) := by decide +kernel
theorem dX9_pass_40 : decode cX9_pass 40 = .ok (.if_icmp .ge 78, 3) := by decide +kernel
theorem dX9_pass_43 : decode cX9_pass 43 = .ok (.aload_n 0, 1) := by decide +kernel
theorem dX9_pass_44 : decode cX9_pass 44 = .ok (.getfield 120, 3) := by decide +kernel
theorem dX9_pass_47 : decode cX9_pass 47 = .ok (.ifCond .ne 71, 3) := by decide +kernel
theorem dX9_pass_50 : decode cX9_pass 50 = .ok (.aload_n 0, 1) := by decide +kernel
theorem dX9_pass_51 : decode cX9_pass 51 = .ok (.dup, 1) := by decide +kernel
theorem dX9_pass_52 : decode cX9_pass 52 = .ok (.getfield 139, 3) := by decide +kernel
theorem dX9_pass_55 : decode cX9_pass 55 = .ok (.iconst 1, 1) := by decide +kernel
theorem dX9_pass_56 : decode cX9_pass 56 = .ok (.iadd, 1) := by decide +kernel
theorem dX9_pass_57 : decode cX9_pass 57 = .ok (.putfield 139, 3) := by decide +kernel
theorem dX9_pass_60 : decode cX9_pass 60 = .ok (.aload_n 0, 1) := by decide +kernel
theorem dX9_pass_61 : decode cX9_pass 61 = .ok (.bipush 75, 2) := by decide +kernel
theorem dX9_pass_63 : decode cX9_pass 63 = .ok (.aload_n 0, 1) := by decide +kernel
theorem dX9_pass_64 : decode cX9_pass 64 = .ok (.getfield 142, 3) := by decide +kernel
theorem dX9_pass_67 : decode cX9_pass 67 = .ok (.imul, 1) := by decide +kernel
theorem dX9_pass_68 : decode cX9_pass 68 = .ok (.bipush 74, 2) := by decide +kernel
theorem dX9_pass_70 : decode cX9_pass 70 = .ok (.iadd, 1) := by decide +kernel
theorem dX9_pass_71 : decode cX9_pass 71 = .ok (.ldc 145, 2) := by decide +kernel
theorem dX9_pass_73 : decode cX9_pass 73 = .ok (.irem, 1) := by decide +kernel
theorem dX9_pass_74 : decode cX9_pass 74 = .ok (.putfield 142, 3) := by decide +kernel
theorem dX9_pass_77 : decode cX9_pass 77 = .ok (.aload_n 0, 1) := by decide +kernel
theorem dX9_pass_78 : decode cX9_pass 78 = .ok (.iconst 0, 1) := by decide +kernel
theorem dX9_pass_79 : decode cX9_pass 79 = .ok (.putfield 146, 3) := by decide +kernel
theorem dX9_pass_82 : decode cX9_pass 82 = .ok (.aload_n 0, 1) := by decide +kernel
theorem dX9_pass_83 : decode cX9_pass 83 = .ok (.invokevirtual 149, 3) := by decide +kernel
theorem dX9_pass_86 : decode cX9_pass 86 = .ok (.ifCond .ne 26, 3) := by decide +kernel
theorem dX9_pass_89 : decode cX9_pass 89 = .ok (.aload_n 0, 1) := by decide +kernel
theorem dX9_pass_90 : decode cX9_pass 90 = .ok (.getfield 153, 3) := by decide +kernel
theorem dX9_pass_93 : decode cX9_pass 93 = .ok (.ifCond .ne 19, 3) := by decide +kernel
theorem dX9_pass_96 : decode cX9_pass 96 = .ok (.aload_n 0, 1) := by decide +kernel
theorem dX9_pass_97 : decode cX9_pass 97 = .ok (.getfield 142, 3) := by decide +kernel
theorem dX9_pass_100 : decode cX9_pass 100 = .ok (.bipush 10, 2) := by decide +kernel
theorem dX9_pass_102 : decode cX9_pass 102 = .ok (.irem, 1) := by decide +kernel
theorem dX9_pass_103 : decode cX9_pass 103 = .ok (.bipush 9, 2) := by decide +kernel
theorem dX9_pass_105 : decode cX9_pass 105 = .ok (.if_icmp .ne 7, 3) := by decide +kernel
theorem dX9_pass_108 : decode cX9_pass 108 = .ok (.aload_n 0, 1) := by decide +kernel
theorem dX9_pass_109 : decode cX9_pass 109 = .ok (.invokevirtual 157, 3) := by decide +kernel
theorem dX9_pass_112 : decode cX9_pass 112 = .ok (.iinc 2 1, 3) := by decide +kernel
theorem dX9_pass_115 : decode cX9_pass 115 = .ok (.goto (-77), 3) := by decide +kernel
theorem dX9_pass_118 : decode cX9_pass 118 = .ok (.aload_n 0, 1) := by decide +kernel
theorem dX9_pass_119 : decode cX9_pass 119 = .ok (.getfield 120, 3) := by decide +kernel
theorem dX9_pass_122 : decode cX9_pass 122 = .ok (.ifCond .le 7, 3) := by decide +kernel
theorem dX9_pass_125 : decode cX9_pass 125 = .ok (.iconst 0, 1) := by decide +kernel
theorem dX9_pass_126 : decode cX9_pass 126 = .ok (.goto 7, 3) := by decide +kernel
theorem dX9_pass_129 : decode cX9_pass 129 = .ok (.aload_n 0, 1) := by decide +kernel
theorem dX9_pass_130 : decode cX9_pass 130 = .ok (.getfield 139, 3) := by decide +kernel
theorem dX9_pass_133 : decode cX9_pass 133 = .ok (.ireturn, 1) := by decide +kernel
theorem dX9_buoys_0 : decode cX9_buoys 0 = .ok (.aload_n 0, 1) := by decide +kernel
theorem dX9_buoys_1 : decode cX9_buoys 1 = .ok (.iconst 1, 1) := by decide +kernel
theorem dX9_buoys_2 : decode cX9_buoys 2 = .ok (.putfield 153, 3) := by decide +kernel
theorem dX9_buoys_5 : decode cX9_buoys 5 = .ok (.aload_n 0, 1) := by decide +kernel
theorem dX9_buoys_6 : decode cX9_buoys 6 = .ok (.invokevirtual 160, 3) := by decide +kernel
theorem dX9_buoys_9 : decode cX9_buoys 9 = .ok (.sipush 200, 3) := by decide +kernel
theorem dX9_buoys_12 : decode cX9_buoys 12 = .ok (.if_icmp .ge 10, 3) := by decide +kernel
theorem dX9_buoys_15 : decode cX9_buoys 15 = .ok (.aload_n 0, 1) := by decide +kernel
theorem dX9_buoys_16 : decode cX9_buoys 16 = .ok (.invokevirtual 160, 3) := by decide +kernel
theorem dX9_buoys_19 : decode cX9_buoys 19 = .ok (.goto 6, 3) := by decide +kernel
theorem dX9_buoys_22 : decode cX9_buoys 22 = .ok (.sipush 200, 3) := by decide +kernel
theorem dX9_buoys_25 : decode cX9_buoys 25 = .ok (.istore_n 1, 1) := by decide +kernel
theorem dX9_buoys_26 : decode cX9_buoys 26 = .ok (.aload_n 0, 1) := by decide +kernel
theorem dX9_buoys_27 : decode cX9_buoys 27 = .ok (.iload_n 1, 1) := by decide +kernel
theorem dX9_buoys_28 : decode cX9_buoys 28 = .ok (.putfield 164, 3) := by decide +kernel
theorem dX9_buoys_31 : decode cX9_buoys 31 = .ok (.aload_n 0, 1) := by decide +kernel
theorem dX9_buoys_32 : decode cX9_buoys 32 = .ok (.dup, 1) := by decide +kernel
theorem dX9_buoys_33 : decode cX9_buoys 33 = .ok (.getfield 167, 3) := by decide +kernel
theorem dX9_buoys_36 : decode cX9_buoys 36 = .ok (.iload_n 1, 1) := by decide +kernel
theorem dX9_buoys_37 : decode cX9_buoys 37 = .ok (.i2l, 1) := by decide +kernel
theorem dX9_buoys_38 : decode cX9_buoys 38 = .ok (.ladd, 1) := by decide +kernel
theorem dX9_buoys_39 : decode cX9_buoys 39 = .ok (.putfield 167, 3) := by decide +kernel
theorem dX9_buoys_42 : decode cX9_buoys 42 = .ok (.aload_n 0, 1) := by decide +kernel
theorem dX9_buoys_43 : decode cX9_buoys 43 = .ok (.getfield 74, 3) := by decide +kernel
theorem dX9_buoys_46 : decode cX9_buoys 46 = .ok (.aload_n 0, 1) := by decide +kernel
theorem dX9_buoys_47 : decode cX9_buoys 47 = .ok (.getfield 135, 3) := by decide +kernel
theorem dX9_buoys_50 : decode cX9_buoys 50 = .ok (.ifCond .le 12, 3) := by decide +kernel
theorem dX9_buoys_53 : decode cX9_buoys 53 = .ok (.aload_n 0, 1) := by decide +kernel
theorem dX9_buoys_54 : decode cX9_buoys 54 = .ok (.getfield 135, 3) := by decide +kernel
theorem dX9_buoys_57 : decode cX9_buoys 57 = .ok (.iconst 1, 1) := by decide +kernel
theorem dX9_buoys_58 : decode cX9_buoys 58 = .ok (.isub, 1) := by decide +kernel
theorem dX9_buoys_59 : decode cX9_buoys 59 = .ok (.goto 4, 3) := by decide +kernel
theorem dX9_buoys_62 : decode cX9_buoys 62 = .ok (.iconst 0, 1) := by decide +kernel
theorem dX9_buoys_63 : decode cX9_buoys 63 = .ok (.dup2, 1) := by decide +kernel
theorem dX9_buoys_64 : decode cX9_buoys 64 = .ok (.iaload, 1) := by decide +kernel
theorem dX9_buoys_65 : decode cX9_buoys 65 = .ok (.iload_n 1, 1) := by decide +kernel
theorem dX9_buoys_66 : decode cX9_buoys 66 = .ok (.isub, 1) := by decide +kernel
theorem dX9_buoys_67 : decode cX9_buoys 67 = .ok (.iastore, 1) := by decide +kernel
theorem dX9_buoys_68 : decode cX9_buoys 68 = .ok (.aload_n 0, 1) := by decide +kernel
theorem dX9_buoys_69 : decode cX9_buoys 69 = .ok (.getfield 171, 3) := by decide +kernel
theorem dX9_buoys_72 : decode cX9_buoys 72 = .ok (.ifCond .le 74, 3) := by decide +kernel
theorem dX9_buoys_75 : decode cX9_buoys 75 = .ok (.iload_n 1, 1) := by decide +kernel
theorem dX9_buoys_76 : decode cX9_buoys 76 = .ok (.ifCond .gt 17, 3) := by decide +kernel
theorem dX9_buoys_79 : decode cX9_buoys 79 = .ok (.aload_n 0, 1) := by decide +kernel
theorem dX9_buoys_80 : decode cX9_buoys 80 = .ok (.getfield 50, 3) := by decide +kernel
theorem dX9_buoys_83 : decode cX9_buoys 83 = .ok (.aload_n 0, 1) := by decide +kernel
theorem dX9_buoys_84 : decode cX9_buoys 84 = .ok (.getfield 171, 3) := by decide +kernel
theorem dX9_buoys_87 : decode cX9_buoys 87 = .ok (.iconst 1, 1) := by decide +kernel
theorem dX9_buoys_88 : decode cX9_buoys 88 = .ok (.isub, 1) := by decide +kernel
theorem dX9_buoys_89 : decode cX9_buoys 89 = .ok (.iaload, 1) := by decide +kernel
theorem dX9_buoys_90 : decode cX9_buoys 90 = .ok (.ifCond .eq 56, 3) := by decide +kernel
theorem dX9_buoys_93 : decode cX9_buoys 93 = .ok (.aload_n 0, 1) := by decide +kernel
theorem dX9_buoys_94 : decode cX9_buoys 94 = .ok (.aload_n 0, 1) := by decide +kernel
theorem dX9_buoys_95 : decode cX9_buoys 95 = .ok (.getfield 171, 3) := by decide +kernel
theorem dX9_buoys_98 : decode cX9_buoys 98 = .ok (.iconst 1, 1) := by decide +kernel
theorem dX9_buoys_99 : decode cX9_buoys 99 = .ok (.isub, 1) := by decide +kernel
theorem dX9_buoys_100 : decode cX9_buoys 100 = .ok (.invokevirtual 174, 3) := by decide +kernel
theorem dX9_buoys_103 : decode cX9_buoys 103 = .ok (.istore_n 2, 1) := by decide +kernel
theorem dX9_buoys_104 : decode cX9_buoys 104 = .ok (.iload_n 2, 1) := by decide +kernel
theorem dX9_buoys_105 : decode cX9_buoys 105 = .ok (.iload_n 1, 1) := by decide +kernel
theorem dX9_buoys_106 : decode cX9_buoys 106 = .ok (.if_icmp .gt 20, 3) := by decide +kernel
theorem dX9_buoys_109 : decode cX9_buoys 109 = .ok (.aload_n 0, 1) := by decide +kernel
theorem dX9_buoys_110 : decode cX9_buoys 110 = .ok (.dup, 1) := by decide +kernel
theorem dX9_buoys_111 : decode cX9_buoys 111 = .ok (.getfield 171, 3) := by decide +kernel
theorem dX9_buoys_114 : decode cX9_buoys 114 = .ok (.iconst 1, 1) := by decide +kernel
theorem dX9_buoys_115 : decode cX9_buoys 115 = .ok (.isub, 1) := by decide +kernel
theorem dX9_buoys_116 : decode cX9_buoys 116 = .ok (.putfield 171, 3) := by decide +kernel
theorem dX9_buoys_119 : decode cX9_buoys 119 = .ok (.iload_n 1, 1) := by decide +kernel
theorem dX9_buoys_120 : decode cX9_buoys 120 = .ok (.iload_n 2, 1) := by decide +kernel
theorem dX9_buoys_121 : decode cX9_buoys 121 = .ok (.isub, 1) := by decide +kernel
theorem dX9_buoys_122 : decode cX9_buoys 122 = .ok (.istore_n 1, 1) := by decide +kernel
theorem dX9_buoys_123 : decode cX9_buoys 123 = .ok (.goto 20, 3) := by decide +kernel
theorem dX9_buoys_126 : decode cX9_buoys 126 = .ok (.aload_n 0, 1) := by decide +kernel
theorem dX9_buoys_127 : decode cX9_buoys 127 = .ok (.getfield 59, 3) := by decide +kernel
theorem dX9_buoys_130 : decode cX9_buoys 130 = .ok (.aload_n 0, 1) := by decide +kernel
theorem dX9_buoys_131 : decode cX9_buoys 131 = .ok (.getfield 171, 3) := by decide +kernel
theorem dX9_buoys_134 : decode cX9_buoys 134 = .ok (.iconst 1, 1) := by decide +kernel
theorem dX9_buoys_135 : decode cX9_buoys 135 = .ok (.isub, 1) := by decide +kernel
theorem dX9_buoys_136 : decode cX9_buoys 136 = .ok (.dup2, 1) := by decide +kernel
theorem dX9_buoys_137 : decode cX9_buoys 137 = .ok (.iaload, 1) := by decide +kernel
theorem dX9_buoys_138 : decode cX9_buoys 138 = .ok (.iload_n 1, 1) := by decide +kernel
theorem dX9_buoys_139 : decode cX9_buoys 139 = .ok (.isub, 1) := by decide +kernel
theorem dX9_buoys_140 : decode cX9_buoys 140 = .ok (.iastore, 1) := by decide +kernel
theorem dX9_buoys_141 : decode cX9_buoys 141 = .ok (.iconst 0, 1) := by decide +kernel
theorem dX9_buoys_142 : decode cX9_buoys 142 = .ok (.istore_n 1, 1) := by decide +kernel
theorem dX9_buoys_143 : decode cX9_buoys 143 = .ok (.goto (-75), 3) := by decide +kernel
theorem dX9_buoys_146 : decode cX9_buoys 146 = .ok (.iconst 0, 1) := by decide +kernel
theorem dX9_buoys_147 : decode cX9_buoys 147 = .ok (.istore_n 2, 1) := by decide +kernel
theorem dX9_buoys_148 : decode cX9_buoys 148 = .ok (.iconst 0, 1) := by decide +kernel
theorem dX9_buoys_149 : decode cX9_buoys 149 = .ok (.istore_n 3, 1) := by decide +kernel
theorem dX9_buoys_150 : decode cX9_buoys 150 = .ok (.iload_n 3, 1) := by decide +kernel
theorem dX9_buoys_151 : decode cX9_buoys 151 = .ok (.aload_n 0, 1) := by decide +kernel
theorem dX9_buoys_152 : decode cX9_buoys 152 = .ok (.getfield 177, 3) := by decide +kernel
theorem dX9_buoys_155 : decode cX9_buoys 155 = .ok (.if_icmp .ge 49, 3) := by decide +kernel
theorem dX9_buoys_158 : decode cX9_buoys 158 = .ok (.aload_n 0, 1) := by decide +kernel
theorem dX9_buoys_159 : decode cX9_buoys 159 = .ok (.getfield 80, 3) := by decide +kernel
theorem dX9_buoys_162 : decode cX9_buoys 162 = .ok (.iload_n 3, 1) := by decide +kernel
theorem dX9_buoys_163 : decode cX9_buoys 163 = .ok (.iaload, 1) := by decide +kernel
theorem dX9_buoys_164 : decode cX9_buoys 164 = .ok (.aload_n 0, 1) := by decide +kernel
theorem dX9_buoys_165 : decode cX9_buoys 165 = .ok (.invokevirtual 160, 3) := by decide +kernel
theorem dX9_buoys_168 : decode cX9_buoys 168 = .ok (.if_icmp .ge 30, 3) := by decide +kernel
theorem dX9_buoys_171 : decode cX9_buoys 171 = .ok (.aload_n 0, 1) := by decide +kernel
theorem dX9_buoys_172 : decode cX9_buoys 172 = .ok (.getfield 77, 3) := by decide +kernel
theorem dX9_buoys_175 : decode cX9_buoys 175 = .ok (.iload_n 2, 1) := by decide +kernel
theorem dX9_buoys_176 : decode cX9_buoys 176 = .ok (.aload_n 0, 1) := by decide +kernel
theorem dX9_buoys_177 : decode cX9_buoys 177 = .ok (.getfield 77, 3) := by decide +kernel
theorem dX9_buoys_180 : decode cX9_buoys 180 = .ok (.iload_n 3, 1) := by decide +kernel
theorem dX9_buoys_181 : decode cX9_buoys 181 = .ok (.iaload, 1) := by decide +kernel
theorem dX9_buoys_182 : decode cX9_buoys 182 = .ok (.iastore, 1) := by decide +kernel
theorem dX9_buoys_183 : decode cX9_buoys 183 = .ok (.aload_n 0, 1) := by decide +kernel
theorem dX9_buoys_184 : decode cX9_buoys 184 = .ok (.getfield 80, 3) := by decide +kernel
theorem dX9_buoys_187 : decode cX9_buoys 187 = .ok (.iload_n 2, 1) := by decide +kernel
theorem dX9_buoys_188 : decode cX9_buoys 188 = .ok (.aload_n 0, 1) := by decide +kernel
theorem dX9_buoys_189 : decode cX9_buoys 189 = .ok (.getfield 80, 3) := by decide +kernel
theorem dX9_buoys_192 : decode cX9_buoys 192 = .ok (.iload_n 3, 1) := by decide +kernel
theorem dX9_buoys_193 : decode cX9_buoys 193 = .ok (.iaload, 1) := by decide +kernel
theorem dX9_buoys_194 : decode cX9_buoys 194 = .ok (.iastore, 1) := by decide +kernel
theorem dX9_buoys_195 : decode cX9_buoys 195 = .ok (.iinc 2 1, 3) := by decide +kernel
theorem dX9_buoys_198 : decode cX9_buoys 198 = .ok (.iinc 3 1, 3) := by decide +kernel
theorem dX9_buoys_201 : decode cX9_buoys 201 = .ok (.goto (-51), 3) := by decide +kernel
theorem dX9_buoys_204 : decode cX9_buoys 204 = .ok (.aload_n 0, 1) := by decide +kernel
theorem dX9_buoys_205 : decode cX9_buoys 205 = .ok (.iload_n 2, 1) := by decide +kernel
theorem dX9_buoys_206 : decode cX9_buoys 206 = .ok (.putfield 177, 3) := by decide +kernel
theorem dX9_buoys_209 : decode cX9_buoys 209 = .ok (.aload_n 0, 1) := by decide +kernel
theorem dX9_buoys_210 : decode cX9_buoys 210 = .ok (.invokevirtual 180, 3) := by decide +kernel
theorem dX9_buoys_213 : decode cX9_buoys 213 = .ok (.return_, 1) := by decide +kernel
theorem dX9_doubts_0 : decode cX9_doubts 0 = .ok (.iconst 0, 1) := by decide +kernel
theorem dX9_doubts_1 : decode cX9_doubts 1 = .ok (.istore_n 1, 1) := by decide +kernel
theorem dX9_doubts_2 : decode cX9_doubts 2 = .ok (.iload_n 1, 1) := by decide +kernel
theorem dX9_doubts_3 : decode cX9_doubts 3 = .ok (.aload_n 0, 1) := by decide +kernel
theorem dX9_doubts_4 : decode cX9_doubts 4 = .ok (.getfield 177, 3) := by decide +kernel
theorem dX9_doubts_7 : decode cX9_doubts 7 = .ok (.if_icmp .ge 26, 3) := by decide +kernel
theorem dX9_doubts_10 : decode cX9_doubts 10 = .ok (.aload_n 0, 1) := by decide +kernel
theorem dX9_doubts_11 : decode cX9_doubts 11 = .ok (.getfield 83, 3) := by decide +kernel
theorem dX9_doubts_14 : decode cX9_doubts 14 = .ok (.iload_n 1, 1) := by decide +kernel
theorem dX9_doubts_15 : decode cX9_doubts 15 = .ok (.iconst 0, 1) := by decide +kernel
theorem dX9_doubts_16 : decode cX9_doubts 16 = .ok (.iastore, 1) := by decide +kernel
theorem dX9_doubts_17 : decode cX9_doubts 17 = .ok (.aload_n 0, 1) := by decide +kernel
theorem dX9_doubts_18 : decode cX9_doubts 18 = .ok (.getfield 86, 3) := by decide +kernel
theorem dX9_doubts_21 : decode cX9_doubts 21 = .ok (.iload_n 1, 1) := by decide +kernel
theorem dX9_doubts_22 : decode cX9_doubts 22 = .ok (.aload_n 0, 1) := by decide +kernel
theorem dX9_doubts_23 : decode cX9_doubts 23 = .ok (.invokevirtual 160, 3) := by decide +kernel
theorem dX9_doubts_26 : decode cX9_doubts 26 = .ok (.iastore, 1) := by decide +kernel
theorem dX9_doubts_27 : decode cX9_doubts 27 = .ok (.iinc 1 1, 3) := by decide +kernel
theorem dX9_doubts_30 : decode cX9_doubts 30 = .ok (.goto (-28), 3) := by decide +kernel
theorem dX9_doubts_33 : decode cX9_doubts 33 = .ok (.return_, 1) := by decide +kernel
theorem dX9_ships_0 : decode cX9_ships 0 = .ok (.aload_n 0, 1) := by decide +kernel
theorem dX9_ships_1 : decode cX9_ships 1 = .ok (.getfield 142, 3) := by decide +kernel
theorem dX9_ships_4 : decode cX9_ships 4 = .ok (.bipush 10, 2) := by decide +kernel
theorem dX9_ships_6 : decode cX9_ships 6 = .ok (.irem, 1) := by decide +kernel
theorem dX9_ships_7 : decode cX9_ships 7 = .ok (.bipush 6, 2) := by decide +kernel
theorem dX9_ships_9 : decode cX9_ships 9 = .ok (.if_icmp .gt 18, 3) := by decide +kernel
theorem dX9_ships_12 : decode cX9_ships 12 = .ok (.aload_n 0, 1) := by decide +kernel
theorem dX9_ships_13 : decode cX9_ships 13 = .ok (.getfield 139, 3) := by decide +kernel
theorem dX9_ships_16 : decode cX9_ships 16 = .ok (.aload_n 0, 1) := by decide +kernel
theorem dX9_ships_17 : decode cX9_ships 17 = .ok (.getfield 183, 3) := by decide +kernel
theorem dX9_ships_20 : decode cX9_ships 20 = .ok (.if_icmp .lt 7, 3) := by decide +kernel
theorem dX9_ships_23 : decode cX9_ships 23 = .ok (.iconst 1, 1) := by decide +kernel
theorem dX9_ships_24 : decode cX9_ships 24 = .ok (.goto 4, 3) := by decide +kernel
theorem dX9_ships_27 : decode cX9_ships 27 = .ok (.iconst 0, 1) := by decide +kernel
theorem dX9_ships_28 : decode cX9_ships 28 = .ok (.ireturn, 1) := by decide +kernel
theorem dX9_make_0 : decode cX9_make 0 = .ok (.iload_n 1, 1) := by decide +kernel
theorem dX9_make_1 : decode cX9_make 1 = .ok (.iconst 0, 1) := by decide +kernel
theorem dX9_make_2 : decode cX9_make 2 = .ok (.iconst 3, 1) := by decide +kernel
theorem dX9_make_3 : decode cX9_make 3 = .ok (.invokestatic 123, 3) := by decide +kernel
theorem dX9_make_6 : decode cX9_make 6 = .ok (.ifCond .eq 26, 3) := by decide +kernel
theorem dX9_make_9 : decode cX9_make 9 = .ok (.iload_n 2, 1) := by decide +kernel
theorem dX9_make_10 : decode cX9_make 10 = .ok (.iconst 1, 1) := by decide +kernel
theorem dX9_make_11 : decode cX9_make 11 = .ok (.ldc 186, 2) := by decide +kernel
theorem dX9_make_13 : decode cX9_make 13 = .ok (.invokestatic 123, 3) := by decide +kernel
theorem dX9_make_16 : decode cX9_make 16 = .ok (.ifCond .eq 16, 3) := by decide +kernel
theorem dX9_make_19 : decode cX9_make 19 = .ok (.iload_n 3, 1) := by decide +kernel
theorem dX9_make_20 : decode cX9_make 20 = .ok (.iconst 0, 1) := by decide +kernel
theorem dX9_make_21 : decode cX9_make 21 = .ok (.iconst 2, 1) := by decide +kernel
theorem dX9_make_22 : decode cX9_make 22 = .ok (.invokestatic 123, 3) := by decide +kernel
theorem dX9_make_25 : decode cX9_make 25 = .ok (.ifCond .eq 7, 3) := by decide +kernel
theorem dX9_make_28 : decode cX9_make 28 = .ok (.iconst 1, 1) := by decide +kernel
theorem dX9_make_29 : decode cX9_make 29 = .ok (.goto 4, 3) := by decide +kernel
theorem dX9_make_32 : decode cX9_make 32 = .ok (.iconst 0, 1) := by decide +kernel
theorem dX9_make_33 : decode cX9_make 33 = .ok (.istore 4, 2) := by decide +kernel
theorem dX9_make_35 : decode cX9_make 35 = .ok (.aload_n 0, 1) := by decide +kernel
theorem dX9_make_36 : decode cX9_make 36 = .ok (.iload 4, 2) := by decide +kernel
theorem dX9_make_38 : decode cX9_make 38 = .ok (.ifCond .ne 7, 3) := by decide +kernel
theorem dX9_make_41 : decode cX9_make 41 = .ok (.iconst 1, 1) := by decide +kernel
theorem dX9_make_42 : decode cX9_make 42 = .ok (.goto 17, 3) := by decide +kernel
theorem dX9_make_45 : decode cX9_make 45 = .ok (.aload_n 0, 1) := by decide +kernel
theorem dX9_make_46 : decode cX9_make 46 = .ok (.getfield 187, 3) := by decide +kernel
theorem dX9_make_49 : decode cX9_make 49 = .ok (.bipush 30, 2) := by decide +kernel
theorem dX9_make_51 : decode cX9_make 51 = .ok (.if_icmp .ne 7, 3) := by decide +kernel
theorem dX9_make_54 : decode cX9_make 54 = .ok (.iconst 2, 1) := by decide +kernel
theorem dX9_make_55 : decode cX9_make 55 = .ok (.goto 4, 3) := by decide +kernel
theorem dX9_make_58 : decode cX9_make 58 = .ok (.iconst 0, 1) := by decide +kernel
theorem dX9_make_59 : decode cX9_make 59 = .ok (.putfield 120, 3) := by decide +kernel
theorem dX9_make_62 : decode cX9_make 62 = .ok (.aload_n 0, 1) := by decide +kernel
theorem dX9_make_63 : decode cX9_make 63 = .ok (.getfield 120, 3) := by decide +kernel
theorem dX9_make_66 : decode cX9_make 66 = .ok (.ifCond .le 5, 3) := by decide +kernel
theorem dX9_make_69 : decode cX9_make 69 = .ok (.iconst 0, 1) := by decide +kernel
theorem dX9_make_70 : decode cX9_make 70 = .ok (.ireturn, 1) := by decide +kernel
theorem dX9_make_71 : decode cX9_make 71 = .ok (.aload_n 0, 1) := by decide +kernel
theorem dX9_make_72 : decode cX9_make 72 = .ok (.getfield 26, 3) := by decide +kernel
theorem dX9_make_75 : decode cX9_make 75 = .ok (.aload_n 0, 1) := by decide +kernel
theorem dX9_make_76 : decode cX9_make 76 = .ok (.getfield 187, 3) := by decide +kernel
theorem dX9_make_79 : decode cX9_make 79 = .ok (.iload_n 1, 1) := by decide +kernel
theorem dX9_make_80 : decode cX9_make 80 = .ok (.iastore, 1) := by decide +kernel
theorem dX9_make_81 : decode cX9_make 81 = .ok (.bipush 30, 2) := by decide +kernel
theorem dX9_make_83 : decode cX9_make 83 = .ok (.iload_n 3, 1) := by decide +kernel
theorem dX9_make_84 : decode cX9_make 84 = .ok (.imul, 1) := by decide +kernel
theorem dX9_make_85 : decode cX9_make 85 = .ok (.aload_n 0, 1) := by decide +kernel
theorem dX9_make_86 : decode cX9_make 86 = .ok (.getfield 29, 3) := by decide +kernel
theorem dX9_make_89 : decode cX9_make 89 = .ok (.iload_n 3, 1) := by decide +kernel
theorem dX9_make_90 : decode cX9_make 90 = .ok (.iaload, 1) := by decide +kernel
theorem dX9_make_91 : decode cX9_make 91 = .ok (.iadd, 1) := by decide +kernel
theorem dX9_make_92 : decode cX9_make 92 = .ok (.istore 5, 2) := by decide +kernel
theorem dX9_make_94 : decode cX9_make 94 = .ok (.aload_n 0, 1) := by decide +kernel
theorem dX9_make_95 : decode cX9_make 95 = .ok (.getfield 32, 3) := by decide +kernel
theorem dX9_make_98 : decode cX9_make 98 = .ok (.iload 5, 2) := by decide +kernel
theorem dX9_make_100 : decode cX9_make 100 = .ok (.aload_n 0, 1) := by decide +kernel
theorem dX9_make_101 : decode cX9_make 101 = .ok (.getfield 187, 3) := by decide +kernel
theorem dX9_make_104 : decode cX9_make 104 = .ok (.iastore, 1) := by decide +kernel
theorem dX9_make_105 : decode cX9_make 105 = .ok (.aload_n 0, 1) := by decide +kernel
theorem dX9_make_106 : decode cX9_make 106 = .ok (.getfield 35, 3) := by decide +kernel
theorem dX9_make_109 : decode cX9_make 109 = .ok (.iload 5, 2) := by decide +kernel
theorem dX9_make_111 : decode cX9_make 111 = .ok (.iconst 0, 1) := by decide +kernel
theorem dX9_make_112 : decode cX9_make 112 = .ok (.iastore, 1) := by decide +kernel
theorem dX9_make_113 : decode cX9_make 113 = .ok (.aload_n 0, 1) := by decide +kernel
theorem dX9_make_114 : decode cX9_make 114 = .ok (.getfield 38, 3) := by decide +kernel
theorem dX9_make_117 : decode cX9_make 117 = .ok (.iload 5, 2) := by decide +kernel
theorem dX9_make_119 : decode cX9_make 119 = .ok (.iload_n 2, 1) := by decide +kernel
theorem dX9_make_120 : decode cX9_make 120 = .ok (.iconst 1, 1) := by decide +kernel
theorem dX9_make_121 : decode cX9_make 121 = .ok (.isub, 1) := by decide +kernel
theorem dX9_make_122 : decode cX9_make 122 = .ok (.iastore, 1) := by decide +kernel
theorem dX9_make_123 : decode cX9_make 123 = .ok (.aload_n 0, 1) := by decide +kernel
theorem dX9_make_124 : decode cX9_make 124 = .ok (.getfield 29, 3) := by decide +kernel
theorem dX9_make_127 : decode cX9_make 127 = .ok (.iload_n 3, 1) := by decide +kernel
theorem dX9_make_128 : decode cX9_make 128 = .ok (.dup2, 1) := by decide +kernel
theorem dX9_make_129 : decode cX9_make 129 = .ok (.iaload, 1) := by decide +kernel
theorem dX9_make_130 : decode cX9_make 130 = .ok (.iconst 1, 1) := by decide +kernel
theorem dX9_make_131 : decode cX9_make 131 = .ok (.iadd, 1) := by decide +kernel
theorem dX9_make_132 : decode cX9_make 132 = .ok (.iastore, 1) := by decide +kernel
theorem dX9_make_133 : decode cX9_make 133 = .ok (.aload_n 0, 1) := by decide +kernel
theorem dX9_make_134 : decode cX9_make 134 = .ok (.dup, 1) := by decide +kernel
theorem dX9_make_135 : decode cX9_make 135 = .ok (.getfield 190, 3) := by decide +kernel
theorem dX9_make_138 : decode cX9_make 138 = .ok (.iload_n 2, 1) := by decide +kernel
theorem dX9_make_139 : decode cX9_make 139 = .ok (.i2l, 1) := by decide +kernel
theorem dX9_make_140 : decode cX9_make 140 = .ok (.ladd, 1) := by decide +kernel
theorem dX9_make_141 : decode cX9_make 141 = .ok (.putfield 190, 3) := by decide +kernel
theorem dX9_make_144 : decode cX9_make 144 = .ok (.aload_n 0, 1) := by decide +kernel
theorem dX9_make_145 : decode cX9_make 145 = .ok (.dup, 1) := by decide +kernel
theorem dX9_make_146 : decode cX9_make 146 = .ok (.getfield 187, 3) := by decide +kernel
theorem dX9_make_149 : decode cX9_make 149 = .ok (.iconst 1, 1) := by decide +kernel
theorem dX9_make_150 : decode cX9_make 150 = .ok (.iadd, 1) := by decide +kernel
theorem dX9_make_151 : decode cX9_make 151 = .ok (.putfield 187, 3) := by decide +kernel
theorem dX9_make_154 : decode cX9_make 154 = .ok (.aload_n 0, 1) := by decide +kernel
theorem dX9_make_155 : decode cX9_make 155 = .ok (.getfield 187, 3) := by decide +kernel
theorem dX9_make_158 : decode cX9_make 158 = .ok (.iconst 1, 1) := by decide +kernel
theorem dX9_make_159 : decode cX9_make 159 = .ok (.isub, 1) := by decide +kernel
theorem dX9_make_160 : decode cX9_make 160 = .ok (.ireturn, 1) := by decide +kernel
theorem dX9_inTank_0 : decode cX9_inTank 0 = .ok (.iconst 0, 1) := by decide +kernel
theorem dX9_inTank_1 : decode cX9_inTank 1 = .ok (.istore_n 2, 1) := by decide +kernel
theorem dX9_inTank_2 : decode cX9_inTank 2 = .ok (.iconst 0, 1) := by decide +kernel
theorem dX9_inTank_3 : decode cX9_inTank 3 = .ok (.istore_n 3, 1) := by decide +kernel
theorem dX9_inTank_4 : decode cX9_inTank 4 = .ok (.iload_n 3, 1) := by decide +kernel
theorem dX9_inTank_5 : decode cX9_inTank 5 = .ok (.aload_n 0, 1) := by decide +kernel
theorem dX9_inTank_6 : decode cX9_inTank 6 = .ok (.getfield 29, 3) := by decide +kernel
theorem dX9_inTank_9 : decode cX9_inTank 9 = .ok (.iload_n 1, 1) := by decide +kernel
theorem dX9_inTank_10 : decode cX9_inTank 10 = .ok (.iaload, 1) := by decide +kernel
theorem dX9_inTank_11 : decode cX9_inTank 11 = .ok (.if_icmp .ge 37, 3) := by decide +kernel
theorem dX9_inTank_14 : decode cX9_inTank 14 = .ok (.iload_n 2, 1) := by decide +kernel
theorem dX9_inTank_15 : decode cX9_inTank 15 = .ok (.aload_n 0, 1) := by decide +kernel
theorem dX9_inTank_16 : decode cX9_inTank 16 = .ok (.getfield 38, 3) := by decide +kernel
theorem dX9_inTank_19 : decode cX9_inTank 19 = .ok (.bipush 30, 2) := by decide +kernel
theorem dX9_inTank_21 : decode cX9_inTank 21 = .ok (.iload_n 1, 1) := by decide +kernel
theorem dX9_inTank_22 : decode cX9_inTank 22 = .ok (.imul, 1) := by decide +kernel
theorem dX9_inTank_23 : decode cX9_inTank 23 = .ok (.iload_n 3, 1) := by decide +kernel
theorem dX9_inTank_24 : decode cX9_inTank 24 = .ok (.iadd, 1) := by decide +kernel
theorem dX9_inTank_25 : decode cX9_inTank 25 = .ok (.iaload, 1) := by decide +kernel
theorem dX9_inTank_26 : decode cX9_inTank 26 = .ok (.aload_n 0, 1) := by decide +kernel
theorem dX9_inTank_27 : decode cX9_inTank 27 = .ok (.getfield 35, 3) := by decide +kernel
theorem dX9_inTank_30 : decode cX9_inTank 30 = .ok (.bipush 30, 2) := by decide +kernel
theorem dX9_inTank_32 : decode cX9_inTank 32 = .ok (.iload_n 1, 1) := by decide +kernel
theorem dX9_inTank_33 : decode cX9_inTank 33 = .ok (.imul, 1) := by decide +kernel
theorem dX9_inTank_34 : decode cX9_inTank 34 = .ok (.iload_n 3, 1) := by decide +kernel
theorem dX9_inTank_35 : decode cX9_inTank 35 = .ok (.iadd, 1) := by decide +kernel
theorem dX9_inTank_36 : decode cX9_inTank 36 = .ok (.iaload, 1) := by decide +kernel
theorem dX9_inTank_37 : decode cX9_inTank 37 = .ok (.isub, 1) := by decide +kernel
theorem dX9_inTank_38 : decode cX9_inTank 38 = .ok (.iconst 1, 1) := by decide +kernel
theorem dX9_inTank_39 : decode cX9_inTank 39 = .ok (.iadd, 1) := by decide +kernel
theorem dX9_inTank_40 : decode cX9_inTank 40 = .ok (.iadd, 1) := by decide +kernel
theorem dX9_inTank_41 : decode cX9_inTank 41 = .ok (.istore_n 2, 1) := by decide +kernel
theorem dX9_inTank_42 : decode cX9_inTank 42 = .ok (.iinc 3 1, 3) := by decide +kernel
theorem dX9_inTank_45 : decode cX9_inTank 45 = .ok (.goto (-41), 3) := by decide +kernel
theorem dX9_inTank_48 : decode cX9_inTank 48 = .ok (.iload_n 2, 1) := by decide +kernel
theorem dX9_inTank_49 : decode cX9_inTank 49 = .ok (.ireturn, 1) := by decide +kernel
theorem dX9_wouldGo_0 : decode cX9_wouldGo 0 = .ok (.aload_n 0, 1) := by decide +kernel
theorem dX9_wouldGo_1 : decode cX9_wouldGo 1 = .ok (.iconst 0, 1) := by decide +kernel
theorem dX9_wouldGo_2 : decode cX9_wouldGo 2 = .ok (.putfield 193, 3) := by decide +kernel
theorem dX9_wouldGo_5 : decode cX9_wouldGo 5 = .ok (.iload_n 2, 1) := by decide +kernel
theorem dX9_wouldGo_6 : decode cX9_wouldGo 6 = .ok (.istore_n 3, 1) := by decide +kernel
theorem dX9_wouldGo_7 : decode cX9_wouldGo 7 = .ok (.aload_n 0, 1) := by decide +kernel
theorem dX9_wouldGo_8 : decode cX9_wouldGo 8 = .ok (.getfield 29, 3) := by decide +kernel
theorem dX9_wouldGo_11 : decode cX9_wouldGo 11 = .ok (.iload_n 1, 1) := by decide +kernel
theorem dX9_wouldGo_12 : decode cX9_wouldGo 12 = .ok (.iaload, 1) := by decide +kernel
theorem dX9_wouldGo_13 : decode cX9_wouldGo 13 = .ok (.iconst 1, 1) := by decide +kernel
theorem dX9_wouldGo_14 : decode cX9_wouldGo 14 = .ok (.isub, 1) := by decide +kernel
theorem dX9_wouldGo_15 : decode cX9_wouldGo 15 = .ok (.istore 4, 2) := by decide +kernel
theorem dX9_wouldGo_17 : decode cX9_wouldGo 17 = .ok (.iload 4, 2) := by decide +kernel
theorem dX9_wouldGo_19 : decode cX9_wouldGo 19 = .ok (.ifCond .lt 123, 3) := by decide +kernel
theorem dX9_wouldGo_22 : decode cX9_wouldGo 22 = .ok (.iload_n 3, 1) := by decide +kernel
theorem dX9_wouldGo_23 : decode cX9_wouldGo 23 = .ok (.ifCond .le 119, 3) := by decide +kernel
theorem dX9_wouldGo_26 : decode cX9_wouldGo 26 = .ok (.bipush 30, 2) := by decide +kernel
theorem dX9_wouldGo_28 : decode cX9_wouldGo 28 = .ok (.iload_n 1, 1) := by decide +kernel
theorem dX9_wouldGo_29 : decode cX9_wouldGo 29 = .ok (.imul, 1) := by decide +kernel
theorem dX9_wouldGo_30 : decode cX9_wouldGo 30 = .ok (.iload 4, 2) := by decide +kernel
theorem dX9_wouldGo_32 : decode cX9_wouldGo 32 = .ok (.iadd, 1) := by decide +kernel
theorem dX9_wouldGo_33 : decode cX9_wouldGo 33 = .ok (.istore 5, 2) := by decide +kernel
theorem dX9_wouldGo_35 : decode cX9_wouldGo 35 = .ok (.aload_n 0, 1) := by decide +kernel
theorem dX9_wouldGo_36 : decode cX9_wouldGo 36 = .ok (.getfield 38, 3) := by decide +kernel
theorem dX9_wouldGo_39 : decode cX9_wouldGo 39 = .ok (.iload 5, 2) := by decide +kernel
theorem dX9_wouldGo_41 : decode cX9_wouldGo 41 = .ok (.iaload, 1) := by decide +kernel
theorem dX9_wouldGo_42 : decode cX9_wouldGo 42 = .ok (.aload_n 0, 1) := by decide +kernel
theorem dX9_wouldGo_43 : decode cX9_wouldGo 43 = .ok (.getfield 35, 3) := by decide +kernel
theorem dX9_wouldGo_46 : decode cX9_wouldGo 46 = .ok (.iload 5, 2) := by decide +kernel
theorem dX9_wouldGo_48 : decode cX9_wouldGo 48 = .ok (.iaload, 1) := by decide +kernel
theorem dX9_wouldGo_49 : decode cX9_wouldGo 49 = .ok (.isub, 1) := by decide +kernel
theorem dX9_wouldGo_50 : decode cX9_wouldGo 50 = .ok (.iconst 1, 1) := by decide +kernel
theorem dX9_wouldGo_51 : decode cX9_wouldGo 51 = .ok (.iadd, 1) := by decide +kernel
theorem dX9_wouldGo_52 : decode cX9_wouldGo 52 = .ok (.istore 6, 2) := by decide +kernel
theorem dX9_wouldGo_54 : decode cX9_wouldGo 54 = .ok (.iload 6, 2) := by decide +kernel
theorem dX9_wouldGo_56 : decode cX9_wouldGo 56 = .ok (.iload_n 3, 1) := by decide +kernel
theorem dX9_wouldGo_57 : decode cX9_wouldGo 57 = .ok (.if_icmp .ge 8, 3) := by decide +kernel
theorem dX9_wouldGo_60 : decode cX9_wouldGo 60 = .ok (.iload 6, 2) := by decide +kernel
theorem dX9_wouldGo_62 : decode cX9_wouldGo 62 = .ok (.goto 4, 3) := by decide +kernel
theorem dX9_wouldGo_65 : decode cX9_wouldGo 65 = .ok (.iload_n 3, 1) := by decide +kernel
theorem dX9_wouldGo_66 : decode cX9_wouldGo 66 = .ok (.istore 7, 2) := by decide +kernel
theorem dX9_wouldGo_68 : decode cX9_wouldGo 68 = .ok (.aload_n 0, 1) := by decide +kernel
theorem dX9_wouldGo_69 : decode cX9_wouldGo 69 = .ok (.getfield 41, 3) := by decide +kernel
theorem dX9_wouldGo_72 : decode cX9_wouldGo 72 = .ok (.aload_n 0, 1) := by decide +kernel
theorem dX9_wouldGo_73 : decode cX9_wouldGo 73 = .ok (.getfield 193, 3) := by decide +kernel
theorem dX9_wouldGo_76 : decode cX9_wouldGo 76 = .ok (.aload_n 0, 1) := by decide +kernel
theorem dX9_wouldGo_77 : decode cX9_wouldGo 77 = .ok (.getfield 32, 3) := by decide +kernel
theorem dX9_wouldGo_80 : decode cX9_wouldGo 80 = .ok (.iload 5, 2) := by decide +kernel
theorem dX9_wouldGo_82 : decode cX9_wouldGo 82 = .ok (.iaload, 1) := by decide +kernel
theorem dX9_wouldGo_83 : decode cX9_wouldGo 83 = .ok (.iastore, 1) := by decide +kernel
theorem dX9_wouldGo_84 : decode cX9_wouldGo 84 = .ok (.aload_n 0, 1) := by decide +kernel
theorem dX9_wouldGo_85 : decode cX9_wouldGo 85 = .ok (.getfield 44, 3) := by decide +kernel
theorem dX9_wouldGo_88 : decode cX9_wouldGo 88 = .ok (.aload_n 0, 1) := by decide +kernel
theorem dX9_wouldGo_89 : decode cX9_wouldGo 89 = .ok (.getfield 193, 3) := by decide +kernel
theorem dX9_wouldGo_92 : decode cX9_wouldGo 92 = .ok (.aload_n 0, 1) := by decide +kernel
theorem dX9_wouldGo_93 : decode cX9_wouldGo 93 = .ok (.getfield 35, 3) := by decide +kernel
theorem dX9_wouldGo_96 : decode cX9_wouldGo 96 = .ok (.iload 5, 2) := by decide +kernel
theorem dX9_wouldGo_98 : decode cX9_wouldGo 98 = .ok (.iaload, 1) := by decide +kernel
theorem dX9_wouldGo_99 : decode cX9_wouldGo 99 = .ok (.iastore, 1) := by decide +kernel
theorem dX9_wouldGo_100 : decode cX9_wouldGo 100 = .ok (.aload_n 0, 1) := by decide +kernel
theorem dX9_wouldGo_101 : decode cX9_wouldGo 101 = .ok (.getfield 47, 3) := by decide +kernel
theorem dX9_wouldGo_104 : decode cX9_wouldGo 104 = .ok (.aload_n 0, 1) := by decide +kernel
theorem dX9_wouldGo_105 : decode cX9_wouldGo 105 = .ok (.getfield 193, 3) := by decide +kernel
theorem dX9_wouldGo_108 : decode cX9_wouldGo 108 = .ok (.aload_n 0, 1) := by decide +kernel
theorem dX9_wouldGo_109 : decode cX9_wouldGo 109 = .ok (.getfield 35, 3) := by decide +kernel
theorem dX9_wouldGo_112 : decode cX9_wouldGo 112 = .ok (.iload 5, 2) := by decide +kernel
theorem dX9_wouldGo_114 : decode cX9_wouldGo 114 = .ok (.iaload, 1) := by decide +kernel
theorem dX9_wouldGo_115 : decode cX9_wouldGo 115 = .ok (.iload 7, 2) := by decide +kernel
theorem dX9_wouldGo_117 : decode cX9_wouldGo 117 = .ok (.iadd, 1) := by decide +kernel
theorem dX9_wouldGo_118 : decode cX9_wouldGo 118 = .ok (.iconst 1, 1) := by decide +kernel
theorem dX9_wouldGo_119 : decode cX9_wouldGo 119 = .ok (.isub, 1) := by decide +kernel
theorem dX9_wouldGo_120 : decode cX9_wouldGo 120 = .ok (.iastore, 1) := by decide +kernel
theorem dX9_wouldGo_121 : decode cX9_wouldGo 121 = .ok (.aload_n 0, 1) := by decide +kernel
theorem dX9_wouldGo_122 : decode cX9_wouldGo 122 = .ok (.dup, 1) := by decide +kernel
theorem dX9_wouldGo_123 : decode cX9_wouldGo 123 = .ok (.getfield 193, 3) := by decide +kernel
theorem dX9_wouldGo_126 : decode cX9_wouldGo 126 = .ok (.iconst 1, 1) := by decide +kernel
theorem dX9_wouldGo_127 : decode cX9_wouldGo 127 = .ok (.iadd, 1) := by decide +kernel
theorem dX9_wouldGo_128 : decode cX9_wouldGo 128 = .ok (.putfield 193, 3) := by decide +kernel
theorem dX9_wouldGo_131 : decode cX9_wouldGo 131 = .ok (.iload_n 3, 1) := by decide +kernel
theorem dX9_wouldGo_132 : decode cX9_wouldGo 132 = .ok (.iload 7, 2) := by decide +kernel
theorem dX9_wouldGo_134 : decode cX9_wouldGo 134 = .ok (.isub, 1) := by decide +kernel
theorem dX9_wouldGo_135 : decode cX9_wouldGo 135 = .ok (.istore_n 3, 1) := by decide +kernel
theorem dX9_wouldGo_136 : decode cX9_wouldGo 136 = .ok (.iinc 4 (-1), 3) := by decide +kernel
theorem dX9_wouldGo_139 : decode cX9_wouldGo 139 = .ok (.goto (-122), 3) := by decide +kernel
theorem dX9_wouldGo_142 : decode cX9_wouldGo 142 = .ok (.iload_n 3, 1) := by decide +kernel
theorem dX9_wouldGo_143 : decode cX9_wouldGo 143 = .ok (.ifCond .ne 7, 3) := by decide +kernel
theorem dX9_wouldGo_146 : decode cX9_wouldGo 146 = .ok (.iconst 1, 1) := by decide +kernel
theorem dX9_wouldGo_147 : decode cX9_wouldGo 147 = .ok (.goto 4, 3) := by decide +kernel
theorem dX9_wouldGo_150 : decode cX9_wouldGo 150 = .ok (.iconst 0, 1) := by decide +kernel
theorem dX9_wouldGo_151 : decode cX9_wouldGo 151 = .ok (.ireturn, 1) := by decide +kernel
theorem dX9_goesOut_0 : decode cX9_goesOut 0 = .ok (.iconst 0, 1) := by decide +kernel
theorem dX9_goesOut_1 : decode cX9_goesOut 1 = .ok (.istore_n 2, 1) := by decide +kernel
theorem dX9_goesOut_2 : decode cX9_goesOut 2 = .ok (.iload_n 2, 1) := by decide +kernel
theorem dX9_goesOut_3 : decode cX9_goesOut 3 = .ok (.aload_n 0, 1) := by decide +kernel
theorem dX9_goesOut_4 : decode cX9_goesOut 4 = .ok (.getfield 193, 3) := by decide +kernel
theorem dX9_goesOut_7 : decode cX9_goesOut 7 = .ok (.if_icmp .ge 65, 3) := by decide +kernel
theorem dX9_goesOut_10 : decode cX9_goesOut 10 = .ok (.bipush 30, 2) := by decide +kernel
theorem dX9_goesOut_12 : decode cX9_goesOut 12 = .ok (.iload_n 1, 1) := by decide +kernel
theorem dX9_goesOut_13 : decode cX9_goesOut 13 = .ok (.imul, 1) := by decide +kernel
theorem dX9_goesOut_14 : decode cX9_goesOut 14 = .ok (.aload_n 0, 1) := by decide +kernel
theorem dX9_goesOut_15 : decode cX9_goesOut 15 = .ok (.getfield 29, 3) := by decide +kernel
theorem dX9_goesOut_18 : decode cX9_goesOut 18 = .ok (.iload_n 1, 1) := by decide +kernel
theorem dX9_goesOut_19 : decode cX9_goesOut 19 = .ok (.iaload, 1) := by decide +kernel
theorem dX9_goesOut_20 : decode cX9_goesOut 20 = .ok (.iadd, 1) := by decide +kernel
theorem dX9_goesOut_21 : decode cX9_goesOut 21 = .ok (.iconst 1, 1) := by decide +kernel
theorem dX9_goesOut_22 : decode cX9_goesOut 22 = .ok (.isub, 1) := by decide +kernel
theorem dX9_goesOut_23 : decode cX9_goesOut 23 = .ok (.istore_n 3, 1) := by decide +kernel
theorem dX9_goesOut_24 : decode cX9_goesOut 24 = .ok (.aload_n 0, 1) := by decide +kernel
theorem dX9_goesOut_25 : decode cX9_goesOut 25 = .ok (.getfield 47, 3) := by decide +kernel
theorem dX9_goesOut_28 : decode cX9_goesOut 28 = .ok (.iload_n 2, 1) := by decide +kernel
theorem dX9_goesOut_29 : decode cX9_goesOut 29 = .ok (.iaload, 1) := by decide +kernel
theorem dX9_goesOut_30 : decode cX9_goesOut 30 = .ok (.aload_n 0, 1) := by decide +kernel
theorem dX9_goesOut_31 : decode cX9_goesOut 31 = .ok (.getfield 38, 3) := by decide +kernel
theorem dX9_goesOut_34 : decode cX9_goesOut 34 = .ok (.iload_n 3, 1) := by decide +kernel
theorem dX9_goesOut_35 : decode cX9_goesOut 35 = .ok (.iaload, 1) := by decide +kernel
theorem dX9_goesOut_36 : decode cX9_goesOut 36 = .ok (.if_icmp .ne 16, 3) := by decide +kernel
theorem dX9_goesOut_39 : decode cX9_goesOut 39 = .ok (.aload_n 0, 1) := by decide +kernel
theorem dX9_goesOut_40 : decode cX9_goesOut 40 = .ok (.getfield 29, 3) := by decide +kernel
theorem dX9_goesOut_43 : decode cX9_goesOut 43 = .ok (.iload_n 1, 1) := by decide +kernel
theorem dX9_goesOut_44 : decode cX9_goesOut 44 = .ok (.dup2, 1) := by decide +kernel
theorem dX9_goesOut_45 : decode cX9_goesOut 45 = .ok (.iaload, 1) := by decide +kernel
theorem dX9_goesOut_46 : decode cX9_goesOut 46 = .ok (.iconst 1, 1) := by decide +kernel
theorem dX9_goesOut_47 : decode cX9_goesOut 47 = .ok (.isub, 1) := by decide +kernel
theorem dX9_goesOut_48 : decode cX9_goesOut 48 = .ok (.iastore, 1) := by decide +kernel
theorem dX9_goesOut_49 : decode cX9_goesOut 49 = .ok (.goto 17, 3) := by decide +kernel
theorem dX9_goesOut_52 : decode cX9_goesOut 52 = .ok (.aload_n 0, 1) := by decide +kernel
theorem dX9_goesOut_53 : decode cX9_goesOut 53 = .ok (.getfield 35, 3) := by decide +kernel
theorem dX9_goesOut_56 : decode cX9_goesOut 56 = .ok (.iload_n 3, 1) := by decide +kernel
theorem dX9_goesOut_57 : decode cX9_goesOut 57 = .ok (.aload_n 0, 1) := by decide +kernel
theorem dX9_goesOut_58 : decode cX9_goesOut 58 = .ok (.getfield 47, 3) := by decide +kernel
theorem dX9_goesOut_61 : decode cX9_goesOut 61 = .ok (.iload_n 2, 1) := by decide +kernel
theorem dX9_goesOut_62 : decode cX9_goesOut 62 = .ok (.iaload, 1) := by decide +kernel
theorem dX9_goesOut_63 : decode cX9_goesOut 63 = .ok (.iconst 1, 1) := by decide +kernel
theorem dX9_goesOut_64 : decode cX9_goesOut 64 = .ok (.iadd, 1) := by decide +kernel
theorem dX9_goesOut_65 : decode cX9_goesOut 65 = .ok (.iastore, 1) := by decide +kernel
theorem dX9_goesOut_66 : decode cX9_goesOut 66 = .ok (.iinc 2 1, 3) := by decide +kernel
theorem dX9_goesOut_69 : decode cX9_goesOut 69 = .ok (.goto (-67), 3) := by decide +kernel
theorem dX9_goesOut_72 : decode cX9_goesOut 72 = .ok (.return_, 1) := by decide +kernel
theorem dX9_typesFit_0 : decode cX9_typesFit 0 = .ok (.iload_n 1, 1) := by decide +kernel
theorem dX9_typesFit_1 : decode cX9_typesFit 1 = .ok (.istore_n 3, 1) := by decide +kernel
theorem dX9_typesFit_2 : decode cX9_typesFit 2 = .ok (.iconst 1, 1) := by decide +kernel
theorem dX9_typesFit_3 : decode cX9_typesFit 3 = .ok (.istore 4, 2) := by decide +kernel
theorem dX9_typesFit_5 : decode cX9_typesFit 5 = .ok (.iconst 0, 1) := by decide +kernel
theorem dX9_typesFit_6 : decode cX9_typesFit 6 = .ok (.istore 5, 2) := by decide +kernel
theorem dX9_typesFit_8 : decode cX9_typesFit 8 = .ok (.iload 5, 2) := by decide +kernel
theorem dX9_typesFit_10 : decode cX9_typesFit 10 = .ok (.aload_n 0, 1) := by decide +kernel
theorem dX9_typesFit_11 : decode cX9_typesFit 11 = .ok (.getfield 193, 3) := by decide +kernel
theorem dX9_typesFit_14 : decode cX9_typesFit 14 = .ok (.if_icmp .ge 59, 3) := by decide +kernel
theorem dX9_typesFit_17 : decode cX9_typesFit 17 = .ok (.aload_n 0, 1) := by decide +kernel
theorem dX9_typesFit_18 : decode cX9_typesFit 18 = .ok (.getfield 26, 3) := by decide +kernel
theorem dX9_typesFit_21 : decode cX9_typesFit 21 = .ok (.aload_n 0, 1) := by decide +kernel
theorem dX9_typesFit_22 : decode cX9_typesFit 22 = .ok (.getfield 41, 3) := by decide +kernel
theorem dX9_typesFit_25 : decode cX9_typesFit 25 = .ok (.iload 5, 2) := by decide +kernel
theorem dX9_typesFit_27 : decode cX9_typesFit 27 = .ok (.iaload, 1) := by decide +kernel
theorem dX9_typesFit_28 : decode cX9_typesFit 28 = .ok (.iaload, 1) := by decide +kernel
theorem dX9_typesFit_29 : decode cX9_typesFit 29 = .ok (.istore 6, 2) := by decide +kernel
theorem dX9_typesFit_31 : decode cX9_typesFit 31 = .ok (.iload 4, 2) := by decide +kernel
theorem dX9_typesFit_33 : decode cX9_typesFit 33 = .ok (.ifCond .eq 28, 3) := by decide +kernel
theorem dX9_typesFit_36 : decode cX9_typesFit 36 = .ok (.iload_n 3, 1) := by decide +kernel
theorem dX9_typesFit_37 : decode cX9_typesFit 37 = .ok (.iconst (-1), 1) := by decide +kernel
theorem dX9_typesFit_38 : decode cX9_typesFit 38 = .ok (.if_icmp .eq 19, 3) := by decide +kernel
theorem dX9_typesFit_41 : decode cX9_typesFit 41 = .ok (.iload 6, 2) := by decide +kernel
theorem dX9_typesFit_43 : decode cX9_typesFit 43 = .ok (.iload_n 3, 1) := by decide +kernel
theorem dX9_typesFit_44 : decode cX9_typesFit 44 = .ok (.isub, 1) := by decide +kernel
theorem dX9_typesFit_45 : decode cX9_typesFit 45 = .ok (.iconst 1, 1) := by decide +kernel
theorem dX9_typesFit_46 : decode cX9_typesFit 46 = .ok (.if_icmp .gt 15, 3) := by decide +kernel
theorem dX9_typesFit_49 : decode cX9_typesFit 49 = .ok (.iload_n 3, 1) := by decide +kernel
theorem dX9_typesFit_50 : decode cX9_typesFit 50 = .ok (.iload 6, 2) := by decide +kernel
theorem dX9_typesFit_52 : decode cX9_typesFit 52 = .ok (.isub, 1) := by decide +kernel
theorem dX9_typesFit_53 : decode cX9_typesFit 53 = .ok (.iconst 1, 1) := by decide +kernel
theorem dX9_typesFit_54 : decode cX9_typesFit 54 = .ok (.if_icmp .gt 7, 3) := by decide +kernel
theorem dX9_typesFit_57 : decode cX9_typesFit 57 = .ok (.iconst 1, 1) := by decide +kernel
theorem dX9_typesFit_58 : decode cX9_typesFit 58 = .ok (.goto 4, 3) := by decide +kernel
theorem dX9_typesFit_61 : decode cX9_typesFit 61 = .ok (.iconst 0, 1) := by decide +kernel
theorem dX9_typesFit_62 : decode cX9_typesFit 62 = .ok (.istore 4, 2) := by decide +kernel
theorem dX9_typesFit_64 : decode cX9_typesFit 64 = .ok (.iload 6, 2) := by decide +kernel
theorem dX9_typesFit_66 : decode cX9_typesFit 66 = .ok (.istore_n 3, 1) := by decide +kernel
theorem dX9_typesFit_67 : decode cX9_typesFit 67 = .ok (.iinc 5 1, 3) := by decide +kernel
theorem dX9_typesFit_70 : decode cX9_typesFit 70 = .ok (.goto (-62), 3) := by decide +kernel
theorem dX9_typesFit_73 : decode cX9_typesFit 73 = .ok (.iload 4, 2) := by decide +kernel
theorem dX9_typesFit_75 : decode cX9_typesFit 75 = .ok (.ifCond .eq 31, 3) := by decide +kernel
theorem dX9_typesFit_78 : decode cX9_typesFit 78 = .ok (.iload_n 3, 1) := by decide +kernel
theorem dX9_typesFit_79 : decode cX9_typesFit 79 = .ok (.iconst (-1), 1) := by decide +kernel
theorem dX9_typesFit_80 : decode cX9_typesFit 80 = .ok (.if_icmp .eq 22, 3) := by decide +kernel
theorem dX9_typesFit_83 : decode cX9_typesFit 83 = .ok (.iload_n 2, 1) := by decide +kernel
theorem dX9_typesFit_84 : decode cX9_typesFit 84 = .ok (.iconst (-1), 1) := by decide +kernel
theorem dX9_typesFit_85 : decode cX9_typesFit 85 = .ok (.if_icmp .eq 17, 3) := by decide +kernel
theorem dX9_typesFit_88 : decode cX9_typesFit 88 = .ok (.iload_n 2, 1) := by decide +kernel
theorem dX9_typesFit_89 : decode cX9_typesFit 89 = .ok (.iload_n 3, 1) := by decide +kernel
theorem dX9_typesFit_90 : decode cX9_typesFit 90 = .ok (.isub, 1) := by decide +kernel
theorem dX9_typesFit_91 : decode cX9_typesFit 91 = .ok (.iconst 1, 1) := by decide +kernel
theorem dX9_typesFit_92 : decode cX9_typesFit 92 = .ok (.if_icmp .gt 14, 3) := by decide +kernel
theorem dX9_typesFit_95 : decode cX9_typesFit 95 = .ok (.iload_n 3, 1) := by decide +kernel
theorem dX9_typesFit_96 : decode cX9_typesFit 96 = .ok (.iload_n 2, 1) := by decide +kernel
theorem dX9_typesFit_97 : decode cX9_typesFit 97 = .ok (.isub, 1) := by decide +kernel
theorem dX9_typesFit_98 : decode cX9_typesFit 98 = .ok (.iconst 1, 1) := by decide +kernel
theorem dX9_typesFit_99 : decode cX9_typesFit 99 = .ok (.if_icmp .gt 7, 3) := by decide +kernel
theorem dX9_typesFit_102 : decode cX9_typesFit 102 = .ok (.iconst 1, 1) := by decide +kernel
theorem dX9_typesFit_103 : decode cX9_typesFit 103 = .ok (.goto 4, 3) := by decide +kernel
theorem dX9_typesFit_106 : decode cX9_typesFit 106 = .ok (.iconst 0, 1) := by decide +kernel
theorem dX9_typesFit_107 : decode cX9_typesFit 107 = .ok (.ireturn, 1) := by decide +kernel
theorem dX9_pull_0 : decode cX9_pull 0 = .ok (.bipush 12, 2) := by decide +kernel
theorem dX9_pull_2 : decode cX9_pull 2 = .ok (.iconst 3, 1) := by decide +kernel
theorem dX9_pull_3 : decode cX9_pull 3 = .ok (.iload_n 0, 1) := by decide +kernel
theorem dX9_pull_4 : decode cX9_pull 4 = .ok (.imul, 1) := by decide +kernel
theorem dX9_pull_5 : decode cX9_pull 5 = .ok (.isub, 1) := by decide +kernel
theorem dX9_pull_6 : decode cX9_pull 6 = .ok (.iload_n 1, 1) := by decide +kernel
theorem dX9_pull_7 : decode cX9_pull 7 = .ok (.imul, 1) := by decide +kernel
theorem dX9_pull_8 : decode cX9_pull 8 = .ok (.bipush 100, 2) := by decide +kernel
theorem dX9_pull_10 : decode cX9_pull 10 = .ok (.idiv, 1) := by decide +kernel
theorem dX9_pull_11 : decode cX9_pull 11 = .ok (.ireturn, 1) := by decide +kernel
theorem dX9_holds_0 : decode cX9_holds 0 = .ok (.iconst 1, 1) := by decide +kernel
theorem dX9_holds_1 : decode cX9_holds 1 = .ok (.istore_n 2, 1) := by decide +kernel
theorem dX9_holds_2 : decode cX9_holds 2 = .ok (.iconst 0, 1) := by decide +kernel
theorem dX9_holds_3 : decode cX9_holds 3 = .ok (.istore_n 3, 1) := by decide +kernel
theorem dX9_holds_4 : decode cX9_holds 4 = .ok (.iload_n 3, 1) := by decide +kernel
theorem dX9_holds_5 : decode cX9_holds 5 = .ok (.aload_n 0, 1) := by decide +kernel
theorem dX9_holds_6 : decode cX9_holds 6 = .ok (.getfield 193, 3) := by decide +kernel
theorem dX9_holds_9 : decode cX9_holds 9 = .ok (.if_icmp .ge 85, 3) := by decide +kernel
theorem dX9_holds_12 : decode cX9_holds 12 = .ok (.aload_n 0, 1) := by decide +kernel
theorem dX9_holds_13 : decode cX9_holds 13 = .ok (.getfield 26, 3) := by decide +kernel
theorem dX9_holds_16 : decode cX9_holds 16 = .ok (.aload_n 0, 1) := by decide +kernel
theorem dX9_holds_17 : decode cX9_holds 17 = .ok (.getfield 41, 3) := by decide +kernel
theorem dX9_holds_20 : decode cX9_holds 20 = .ok (.iload_n 3, 1) := by decide +kernel
theorem dX9_holds_21 : decode cX9_holds 21 = .ok (.iaload, 1) := by decide +kernel
theorem dX9_holds_22 : decode cX9_holds 22 = .ok (.iaload, 1) := by decide +kernel
theorem dX9_holds_23 : decode cX9_holds 23 = .ok (.istore 4, 2) := by decide +kernel
theorem dX9_holds_25 : decode cX9_holds 25 = .ok (.iload 4, 2) := by decide +kernel
theorem dX9_holds_27 : decode cX9_holds 27 = .ok (.ifCond .ne 8, 3) := by decide +kernel
theorem dX9_holds_30 : decode cX9_holds 30 = .ok (.bipush 60, 2) := by decide +kernel
theorem dX9_holds_32 : decode cX9_holds 32 = .ok (.goto 29, 3) := by decide +kernel
theorem dX9_holds_35 : decode cX9_holds 35 = .ok (.iload 4, 2) := by decide +kernel
theorem dX9_holds_37 : decode cX9_holds 37 = .ok (.iconst 1, 1) := by decide +kernel
theorem dX9_holds_38 : decode cX9_holds 38 = .ok (.if_icmp .ne 8, 3) := by decide +kernel
theorem dX9_holds_41 : decode cX9_holds 41 = .ok (.bipush 90, 2) := by decide +kernel
theorem dX9_holds_43 : decode cX9_holds 43 = .ok (.goto 18, 3) := by decide +kernel
theorem dX9_holds_46 : decode cX9_holds 46 = .ok (.iload 4, 2) := by decide +kernel
theorem dX9_holds_48 : decode cX9_holds 48 = .ok (.iconst 2, 1) := by decide +kernel
theorem dX9_holds_49 : decode cX9_holds 49 = .ok (.if_icmp .ne 9, 3) := by decide +kernel
theorem dX9_holds_52 : decode cX9_holds 52 = .ok (.sipush 150, 3) := by decide +kernel
theorem dX9_holds_55 : decode cX9_holds 55 = .ok (.goto 6, 3) := by decide +kernel
theorem dX9_holds_58 : decode cX9_holds 58 = .ok (.sipush 200, 3) := by decide +kernel
theorem dX9_holds_61 : decode cX9_holds 61 = .ok (.istore 5, 2) := by decide +kernel
theorem dX9_holds_63 : decode cX9_holds 63 = .ok (.iload_n 2, 1) := by decide +kernel
theorem dX9_holds_64 : decode cX9_holds 64 = .ok (.ifCond .eq 22, 3) := by decide +kernel
theorem dX9_holds_67 : decode cX9_holds 67 = .ok (.iload 4, 2) := by decide +kernel
theorem dX9_holds_69 : decode cX9_holds 69 = .ok (.aload_n 0, 1) := by decide +kernel
theorem dX9_holds_70 : decode cX9_holds 70 = .ok (.iload_n 1, 1) := by decide +kernel
theorem dX9_holds_71 : decode cX9_holds 71 = .ok (.invokevirtual 127, 3) := by decide +kernel
theorem dX9_holds_74 : decode cX9_holds 74 = .ok (.invokestatic 196, 3) := by decide +kernel
theorem dX9_holds_77 : decode cX9_holds 77 = .ok (.iload 5, 2) := by decide +kernel
theorem dX9_holds_79 : decode cX9_holds 79 = .ok (.if_icmp .gt 7, 3) := by decide +kernel
theorem dX9_holds_82 : decode cX9_holds 82 = .ok (.iconst 1, 1) := by decide +kernel
theorem dX9_holds_83 : decode cX9_holds 83 = .ok (.goto 4, 3) := by decide +kernel
theorem dX9_holds_86 : decode cX9_holds 86 = .ok (.iconst 0, 1) := by decide +kernel
theorem dX9_holds_87 : decode cX9_holds 87 = .ok (.istore_n 2, 1) := by decide +kernel
theorem dX9_holds_88 : decode cX9_holds 88 = .ok (.iinc 3 1, 3) := by decide +kernel
theorem dX9_holds_91 : decode cX9_holds 91 = .ok (.goto (-87), 3) := by decide +kernel
theorem dX9_holds_94 : decode cX9_holds 94 = .ok (.iload_n 2, 1) := by decide +kernel
theorem dX9_holds_95 : decode cX9_holds 95 = .ok (.ireturn, 1) := by decide +kernel
theorem dX9_lengthOf_0 : decode cX9_lengthOf 0 = .ok (.aload_n 0, 1) := by decide +kernel
theorem dX9_lengthOf_1 : decode cX9_lengthOf 1 = .ok (.getfield 50, 3) := by decide +kernel
theorem dX9_lengthOf_4 : decode cX9_lengthOf 4 = .ok (.iload_n 1, 1) := by decide +kernel
theorem dX9_lengthOf_5 : decode cX9_lengthOf 5 = .ok (.iaload, 1) := by decide +kernel
theorem dX9_lengthOf_6 : decode cX9_lengthOf 6 = .ok (.ifCond .ne 21, 3) := by decide +kernel
theorem dX9_lengthOf_9 : decode cX9_lengthOf 9 = .ok (.aload_n 0, 1) := by decide +kernel
theorem dX9_lengthOf_10 : decode cX9_lengthOf 10 = .ok (.getfield 59, 3) := by decide +kernel
theorem dX9_lengthOf_13 : decode cX9_lengthOf 13 = .ok (.iload_n 1, 1) := by decide +kernel
theorem dX9_lengthOf_14 : decode cX9_lengthOf 14 = .ok (.iaload, 1) := by decide +kernel
theorem dX9_lengthOf_15 : decode cX9_lengthOf 15 = .ok (.aload_n 0, 1) := by decide +kernel
theorem dX9_lengthOf_16 : decode cX9_lengthOf 16 = .ok (.getfield 56, 3) := by decide +kernel
theorem dX9_lengthOf_19 : decode cX9_lengthOf 19 = .ok (.iload_n 1, 1) := by decide +kernel
theorem dX9_lengthOf_20 : decode cX9_lengthOf 20 = .ok (.iaload, 1) := by decide +kernel
theorem dX9_lengthOf_21 : decode cX9_lengthOf 21 = .ok (.isub, 1) := by decide +kernel
theorem dX9_lengthOf_22 : decode cX9_lengthOf 22 = .ok (.iconst 1, 1) := by decide +kernel
theorem dX9_lengthOf_23 : decode cX9_lengthOf 23 = .ok (.iadd, 1) := by decide +kernel
theorem dX9_lengthOf_24 : decode cX9_lengthOf 24 = .ok (.goto 4, 3) := by decide +kernel
theorem dX9_lengthOf_27 : decode cX9_lengthOf 27 = .ok (.iconst 0, 1) := by decide +kernel
theorem dX9_lengthOf_28 : decode cX9_lengthOf 28 = .ok (.ireturn, 1) := by decide +kernel
theorem dX9_metres_0 : decode cX9_metres 0 = .ok (.iconst 0, 1) := by decide +kernel
theorem dX9_metres_1 : decode cX9_metres 1 = .ok (.istore_n 1, 1) := by decide +kernel
theorem dX9_metres_2 : decode cX9_metres 2 = .ok (.iconst 0, 1) := by decide +kernel
theorem dX9_metres_3 : decode cX9_metres 3 = .ok (.istore_n 2, 1) := by decide +kernel
theorem dX9_metres_4 : decode cX9_metres 4 = .ok (.iload_n 2, 1) := by decide +kernel
theorem dX9_metres_5 : decode cX9_metres 5 = .ok (.aload_n 0, 1) := by decide +kernel
theorem dX9_metres_6 : decode cX9_metres 6 = .ok (.getfield 171, 3) := by decide +kernel
theorem dX9_metres_9 : decode cX9_metres 9 = .ok (.if_icmp .ge 17, 3) := by decide +kernel
theorem dX9_metres_12 : decode cX9_metres 12 = .ok (.iload_n 1, 1) := by decide +kernel
theorem dX9_metres_13 : decode cX9_metres 13 = .ok (.aload_n 0, 1) := by decide +kernel
theorem dX9_metres_14 : decode cX9_metres 14 = .ok (.iload_n 2, 1) := by decide +kernel
theorem dX9_metres_15 : decode cX9_metres 15 = .ok (.invokevirtual 174, 3) := by decide +kernel
theorem dX9_metres_18 : decode cX9_metres 18 = .ok (.iadd, 1) := by decide +kernel
theorem dX9_metres_19 : decode cX9_metres 19 = .ok (.istore_n 1, 1) := by decide +kernel
theorem dX9_metres_20 : decode cX9_metres 20 = .ok (.iinc 2 1, 3) := by decide +kernel
theorem dX9_metres_23 : decode cX9_metres 23 = .ok (.goto (-19), 3) := by decide +kernel
theorem dX9_metres_26 : decode cX9_metres 26 = .ok (.iload_n 1, 1) := by decide +kernel
theorem dX9_metres_27 : decode cX9_metres 27 = .ok (.ireturn, 1) := by decide +kernel
theorem dX9_typeAt_0 : decode cX9_typeAt 0 = .ok (.iconst 0, 1) := by decide +kernel
theorem dX9_typeAt_1 : decode cX9_typeAt 1 = .ok (.istore_n 2, 1) := by decide +kernel
theorem dX9_typeAt_2 : decode cX9_typeAt 2 = .ok (.iconst 0, 1) := by decide +kernel
theorem dX9_typeAt_3 : decode cX9_typeAt 3 = .ok (.istore_n 3, 1) := by decide +kernel
theorem dX9_typeAt_4 : decode cX9_typeAt 4 = .ok (.iload_n 3, 1) := by decide +kernel
theorem dX9_typeAt_5 : decode cX9_typeAt 5 = .ok (.aload_n 0, 1) := by decide +kernel
theorem dX9_typeAt_6 : decode cX9_typeAt 6 = .ok (.getfield 171, 3) := by decide +kernel
theorem dX9_typeAt_9 : decode cX9_typeAt 9 = .ok (.if_icmp .ge 34, 3) := by decide +kernel
theorem dX9_typeAt_12 : decode cX9_typeAt 12 = .ok (.iload_n 2, 1) := by decide +kernel
theorem dX9_typeAt_13 : decode cX9_typeAt 13 = .ok (.aload_n 0, 1) := by decide +kernel
theorem dX9_typeAt_14 : decode cX9_typeAt 14 = .ok (.iload_n 3, 1) := by decide +kernel
theorem dX9_typeAt_15 : decode cX9_typeAt 15 = .ok (.invokevirtual 174, 3) := by decide +kernel
theorem dX9_typeAt_18 : decode cX9_typeAt 18 = .ok (.iadd, 1) := by decide +kernel
theorem dX9_typeAt_19 : decode cX9_typeAt 19 = .ok (.istore_n 2, 1) := by decide +kernel
theorem dX9_typeAt_20 : decode cX9_typeAt 20 = .ok (.iload_n 2, 1) := by decide +kernel
theorem dX9_typeAt_21 : decode cX9_typeAt 21 = .ok (.iload_n 1, 1) := by decide +kernel
theorem dX9_typeAt_22 : decode cX9_typeAt 22 = .ok (.if_icmp .le 15, 3) := by decide +kernel
theorem dX9_typeAt_25 : decode cX9_typeAt 25 = .ok (.aload_n 0, 1) := by decide +kernel
theorem dX9_typeAt_26 : decode cX9_typeAt 26 = .ok (.getfield 26, 3) := by decide +kernel
theorem dX9_typeAt_29 : decode cX9_typeAt 29 = .ok (.aload_n 0, 1) := by decide +kernel
theorem dX9_typeAt_30 : decode cX9_typeAt 30 = .ok (.getfield 53, 3) := by decide +kernel
theorem dX9_typeAt_33 : decode cX9_typeAt 33 = .ok (.iload_n 3, 1) := by decide +kernel
theorem dX9_typeAt_34 : decode cX9_typeAt 34 = .ok (.iaload, 1) := by decide +kernel
theorem dX9_typeAt_35 : decode cX9_typeAt 35 = .ok (.iaload, 1) := by decide +kernel
theorem dX9_typeAt_36 : decode cX9_typeAt 36 = .ok (.ireturn, 1) := by decide +kernel
theorem dX9_typeAt_37 : decode cX9_typeAt 37 = .ok (.iinc 3 1, 3) := by decide +kernel
theorem dX9_typeAt_40 : decode cX9_typeAt 40 = .ok (.goto (-36), 3) := by decide +kernel
theorem dX9_typeAt_43 : decode cX9_typeAt 43 = .ok (.iconst (-1), 1) := by decide +kernel
theorem dX9_typeAt_44 : decode cX9_typeAt 44 = .ok (.ireturn, 1) := by decide +kernel
theorem dX9_lastType_0 : decode cX9_lastType 0 = .ok (.aload_n 0, 1) := by decide +kernel
theorem dX9_lastType_1 : decode cX9_lastType 1 = .ok (.invokevirtual 160, 3) := by decide +kernel
theorem dX9_lastType_4 : decode cX9_lastType 4 = .ok (.istore_n 1, 1) := by decide +kernel
theorem dX9_lastType_5 : decode cX9_lastType 5 = .ok (.iload_n 1, 1) := by decide +kernel
theorem dX9_lastType_6 : decode cX9_lastType 6 = .ok (.ifCond .ne 7, 3) := by decide +kernel
theorem dX9_lastType_9 : decode cX9_lastType 9 = .ok (.iconst (-1), 1) := by decide +kernel
theorem dX9_lastType_10 : decode cX9_lastType 10 = .ok (.goto 10, 3) := by decide +kernel
theorem dX9_lastType_13 : decode cX9_lastType 13 = .ok (.aload_n 0, 1) := by decide +kernel
theorem dX9_lastType_14 : decode cX9_lastType 14 = .ok (.iload_n 1, 1) := by decide +kernel
theorem dX9_lastType_15 : decode cX9_lastType 15 = .ok (.iconst 1, 1) := by decide +kernel
theorem dX9_lastType_16 : decode cX9_lastType 16 = .ok (.isub, 1) := by decide +kernel
theorem dX9_lastType_17 : decode cX9_lastType 17 = .ok (.invokevirtual 200, 3) := by decide +kernel
theorem dX9_lastType_20 : decode cX9_lastType 20 = .ok (.ireturn, 1) := by decide +kernel
theorem dX9_puts_0 : decode cX9_puts 0 = .ok (.aload_n 0, 1) := by decide +kernel
theorem dX9_puts_1 : decode cX9_puts 1 = .ok (.getfield 50, 3) := by decide +kernel
theorem dX9_puts_4 : decode cX9_puts 4 = .ok (.aload_n 0, 1) := by decide +kernel
theorem dX9_puts_5 : decode cX9_puts 5 = .ok (.getfield 171, 3) := by decide +kernel
theorem dX9_puts_8 : decode cX9_puts 8 = .ok (.iload_n 1, 1) := by decide +kernel
theorem dX9_puts_9 : decode cX9_puts 9 = .ok (.iastore, 1) := by decide +kernel
theorem dX9_puts_10 : decode cX9_puts 10 = .ok (.aload_n 0, 1) := by decide +kernel
theorem dX9_puts_11 : decode cX9_puts 11 = .ok (.getfield 53, 3) := by decide +kernel
theorem dX9_puts_14 : decode cX9_puts 14 = .ok (.aload_n 0, 1) := by decide +kernel
theorem dX9_puts_15 : decode cX9_puts 15 = .ok (.getfield 171, 3) := by decide +kernel
theorem dX9_puts_18 : decode cX9_puts 18 = .ok (.iload_n 2, 1) := by decide +kernel
theorem dX9_puts_19 : decode cX9_puts 19 = .ok (.iastore, 1) := by decide +kernel
theorem dX9_puts_20 : decode cX9_puts 20 = .ok (.aload_n 0, 1) := by decide +kernel
theorem dX9_puts_21 : decode cX9_puts 21 = .ok (.getfield 56, 3) := by decide +kernel
theorem dX9_puts_24 : decode cX9_puts 24 = .ok (.aload_n 0, 1) := by decide +kernel
theorem dX9_puts_25 : decode cX9_puts 25 = .ok (.getfield 171, 3) := by decide +kernel
theorem dX9_puts_28 : decode cX9_puts 28 = .ok (.iload_n 3, 1) := by decide +kernel
theorem dX9_puts_29 : decode cX9_puts 29 = .ok (.iastore, 1) := by decide +kernel
theorem dX9_puts_30 : decode cX9_puts 30 = .ok (.aload_n 0, 1) := by decide +kernel
theorem dX9_puts_31 : decode cX9_puts 31 = .ok (.getfield 59, 3) := by decide +kernel
theorem dX9_puts_34 : decode cX9_puts 34 = .ok (.aload_n 0, 1) := by decide +kernel
theorem dX9_puts_35 : decode cX9_puts 35 = .ok (.getfield 171, 3) := by decide +kernel
theorem dX9_puts_38 : decode cX9_puts 38 = .ok (.iload 4, 2) := by decide +kernel
theorem dX9_puts_40 : decode cX9_puts 40 = .ok (.iastore, 1) := by decide +kernel
theorem dX9_puts_41 : decode cX9_puts 41 = .ok (.aload_n 0, 1) := by decide +kernel
theorem dX9_puts_42 : decode cX9_puts 42 = .ok (.dup, 1) := by decide +kernel
theorem dX9_puts_43 : decode cX9_puts 43 = .ok (.getfield 171, 3) := by decide +kernel
theorem dX9_puts_46 : decode cX9_puts 46 = .ok (.iconst 1, 1) := by decide +kernel
theorem dX9_puts_47 : decode cX9_puts 47 = .ok (.iadd, 1) := by decide +kernel
theorem dX9_puts_48 : decode cX9_puts 48 = .ok (.putfield 171, 3) := by decide +kernel
theorem dX9_puts_51 : decode cX9_puts 51 = .ok (.return_, 1) := by decide +kernel
theorem dX9_appends_0 : decode cX9_appends 0 = .ok (.iconst 0, 1) := by decide +kernel
theorem dX9_appends_1 : decode cX9_appends 1 = .ok (.istore_n 1, 1) := by decide +kernel
theorem dX9_appends_2 : decode cX9_appends 2 = .ok (.iload_n 1, 1) := by decide +kernel
theorem dX9_appends_3 : decode cX9_appends 3 = .ok (.aload_n 0, 1) := by decide +kernel
theorem dX9_appends_4 : decode cX9_appends 4 = .ok (.getfield 193, 3) := by decide +kernel
theorem dX9_appends_7 : decode cX9_appends 7 = .ok (.if_icmp .ge 137, 3) := by decide +kernel
theorem dX9_appends_10 : decode cX9_appends 10 = .ok (.aload_n 0, 1) := by decide +kernel
theorem dX9_appends_11 : decode cX9_appends 11 = .ok (.getfield 171, 3) := by decide +kernel
theorem dX9_appends_14 : decode cX9_appends 14 = .ok (.ifCond .le 21, 3) := by decide +kernel
theorem dX9_appends_17 : decode cX9_appends 17 = .ok (.aload_n 0, 1) := by decide +kernel
theorem dX9_appends_18 : decode cX9_appends 18 = .ok (.getfield 50, 3) := by decide +kernel
theorem dX9_appends_21 : decode cX9_appends 21 = .ok (.aload_n 0, 1) := by decide +kernel
theorem dX9_appends_22 : decode cX9_appends 22 = .ok (.getfield 171, 3) := by decide +kernel
theorem dX9_appends_25 : decode cX9_appends 25 = .ok (.iconst 1, 1) := by decide +kernel
theorem dX9_appends_26 : decode cX9_appends 26 = .ok (.isub, 1) := by decide +kernel
theorem dX9_appends_27 : decode cX9_appends 27 = .ok (.iaload, 1) := by decide +kernel
theorem dX9_appends_28 : decode cX9_appends 28 = .ok (.ifCond .ne 7, 3) := by decide +kernel
theorem dX9_appends_31 : decode cX9_appends 31 = .ok (.iconst 1, 1) := by decide +kernel
theorem dX9_appends_32 : decode cX9_appends 32 = .ok (.goto 4, 3) := by decide +kernel
theorem dX9_appends_35 : decode cX9_appends 35 = .ok (.iconst 0, 1) := by decide +kernel
theorem dX9_appends_36 : decode cX9_appends 36 = .ok (.istore_n 2, 1) := by decide +kernel
theorem dX9_appends_37 : decode cX9_appends 37 = .ok (.iload_n 2, 1) := by decide +kernel
theorem dX9_appends_38 : decode cX9_appends 38 = .ok (.ifCond .eq 65, 3) := by decide +kernel
theorem dX9_appends_41 : decode cX9_appends 41 = .ok (.aload_n 0, 1) := by decide +kernel
theorem dX9_appends_42 : decode cX9_appends 42 = .ok (.getfield 53, 3) := by decide +kernel
theorem dX9_appends_45 : decode cX9_appends 45 = .ok (.aload_n 0, 1) := by decide +kernel
theorem dX9_appends_46 : decode cX9_appends 46 = .ok (.getfield 171, 3) := by decide +kernel
theorem dX9_appends_49 : decode cX9_appends 49 = .ok (.iconst 1, 1) := by decide +kernel
theorem dX9_appends_50 : decode cX9_appends 50 = .ok (.isub, 1) := by decide +kernel
theorem dX9_appends_51 : decode cX9_appends 51 = .ok (.iaload, 1) := by decide +kernel
theorem dX9_appends_52 : decode cX9_appends 52 = .ok (.aload_n 0, 1) := by decide +kernel
theorem dX9_appends_53 : decode cX9_appends 53 = .ok (.getfield 41, 3) := by decide +kernel
theorem dX9_appends_56 : decode cX9_appends 56 = .ok (.iload_n 1, 1) := by decide +kernel
theorem dX9_appends_57 : decode cX9_appends 57 = .ok (.iaload, 1) := by decide +kernel
theorem dX9_appends_58 : decode cX9_appends 58 = .ok (.if_icmp .ne 45, 3) := by decide +kernel
theorem dX9_appends_61 : decode cX9_appends 61 = .ok (.aload_n 0, 1) := by decide +kernel
theorem dX9_appends_62 : decode cX9_appends 62 = .ok (.getfield 59, 3) := by decide +kernel
theorem dX9_appends_65 : decode cX9_appends 65 = .ok (.aload_n 0, 1) := by decide +kernel
theorem dX9_appends_66 : decode cX9_appends 66 = .ok (.getfield 171, 3) := by decide +kernel
theorem dX9_appends_69 : decode cX9_appends 69 = .ok (.iconst 1, 1) := by decide +kernel
theorem dX9_appends_70 : decode cX9_appends 70 = .ok (.isub, 1) := by decide +kernel
theorem dX9_appends_71 : decode cX9_appends 71 = .ok (.iaload, 1) := by decide +kernel
theorem dX9_appends_72 : decode cX9_appends 72 = .ok (.iconst 1, 1) := by decide +kernel
theorem dX9_appends_73 : decode cX9_appends 73 = .ok (.iadd, 1) := by decide +kernel
theorem dX9_appends_74 : decode cX9_appends 74 = .ok (.aload_n 0, 1) := by decide +kernel
theorem dX9_appends_75 : decode cX9_appends 75 = .ok (.getfield 44, 3) := by decide +kernel
theorem dX9_appends_78 : decode cX9_appends 78 = .ok (.iload_n 1, 1) := by decide +kernel
theorem dX9_appends_79 : decode cX9_appends 79 = .ok (.iaload, 1) := by decide +kernel
theorem dX9_appends_80 : decode cX9_appends 80 = .ok (.if_icmp .ne 23, 3) := by decide +kernel
theorem dX9_appends_83 : decode cX9_appends 83 = .ok (.aload_n 0, 1) := by decide +kernel
theorem dX9_appends_84 : decode cX9_appends 84 = .ok (.getfield 59, 3) := by decide +kernel
theorem dX9_appends_87 : decode cX9_appends 87 = .ok (.aload_n 0, 1) := by decide +kernel
theorem dX9_appends_88 : decode cX9_appends 88 = .ok (.getfield 171, 3) := by decide +kernel
theorem dX9_appends_91 : decode cX9_appends 91 = .ok (.iconst 1, 1) := by decide +kernel
theorem dX9_appends_92 : decode cX9_appends 92 = .ok (.isub, 1) := by decide +kernel
theorem dX9_appends_93 : decode cX9_appends 93 = .ok (.aload_n 0, 1) := by decide +kernel
theorem dX9_appends_94 : decode cX9_appends 94 = .ok (.getfield 47, 3) := by decide +kernel
theorem dX9_appends_97 : decode cX9_appends 97 = .ok (.iload_n 1, 1) := by decide +kernel
theorem dX9_appends_98 : decode cX9_appends 98 = .ok (.iaload, 1) := by decide +kernel
theorem dX9_appends_99 : decode cX9_appends 99 = .ok (.iastore, 1) := by decide +kernel
theorem dX9_appends_100 : decode cX9_appends 100 = .ok (.goto 38, 3) := by decide +kernel
theorem dX9_appends_103 : decode cX9_appends 103 = .ok (.iload_n 2, 1) := by decide +kernel
theorem dX9_appends_104 : decode cX9_appends 104 = .ok (.ifCond .eq 11, 3) := by decide +kernel
theorem dX9_appends_107 : decode cX9_appends 107 = .ok (.aload_n 0, 1) := by decide +kernel
theorem dX9_appends_108 : decode cX9_appends 108 = .ok (.iconst 1, 1) := by decide +kernel
theorem dX9_appends_109 : decode cX9_appends 109 = .ok (.iconst (-1), 1) := by decide +kernel
theorem dX9_appends_110 : decode cX9_appends 110 = .ok (.iconst (-1), 1) := by decide +kernel
theorem dX9_appends_111 : decode cX9_appends 111 = .ok (.iconst (-1), 1) := by decide +kernel
theorem dX9_appends_112 : decode cX9_appends 112 = .ok (.invokevirtual 203, 3) := by decide +kernel
theorem dX9_appends_115 : decode cX9_appends 115 = .ok (.aload_n 0, 1) := by decide +kernel
theorem dX9_appends_116 : decode cX9_appends 116 = .ok (.iconst 0, 1) := by decide +kernel
theorem dX9_appends_117 : decode cX9_appends 117 = .ok (.aload_n 0, 1) := by decide +kernel
theorem dX9_appends_118 : decode cX9_appends 118 = .ok (.getfield 41, 3) := by decide +kernel
theorem dX9_appends_121 : decode cX9_appends 121 = .ok (.iload_n 1, 1) := by decide +kernel
theorem dX9_appends_122 : decode cX9_appends 122 = .ok (.iaload, 1) := by decide +kernel
theorem dX9_appends_123 : decode cX9_appends 123 = .ok (.aload_n 0, 1) := by decide +kernel
theorem dX9_appends_124 : decode cX9_appends 124 = .ok (.getfield 44, 3) := by decide +kernel
theorem dX9_appends_127 : decode cX9_appends 127 = .ok (.iload_n 1, 1) := by decide +kernel
theorem dX9_appends_128 : decode cX9_appends 128 = .ok (.iaload, 1) := by decide +kernel
theorem dX9_appends_129 : decode cX9_appends 129 = .ok (.aload_n 0, 1) := by decide +kernel
theorem dX9_appends_130 : decode cX9_appends 130 = .ok (.getfield 47, 3) := by decide +kernel
theorem dX9_appends_133 : decode cX9_appends 133 = .ok (.iload_n 1, 1) := by decide +kernel
theorem dX9_appends_134 : decode cX9_appends 134 = .ok (.iaload, 1) := by decide +kernel
theorem dX9_appends_135 : decode cX9_appends 135 = .ok (.invokevirtual 203, 3) := by decide +kernel
theorem dX9_appends_138 : decode cX9_appends 138 = .ok (.iinc 1 1, 3) := by decide +kernel
theorem dX9_appends_141 : decode cX9_appends 141 = .ok (.goto (-139), 3) := by decide +kernel
theorem dX9_appends_144 : decode cX9_appends 144 = .ok (.return_, 1) := by decide +kernel
theorem dX9_lays_0 : decode cX9_lays 0 = .ok (.aload_n 0, 1) := by decide +kernel
theorem dX9_lays_1 : decode cX9_lays 1 = .ok (.getfield 135, 3) := by decide +kernel
theorem dX9_lays_4 : decode cX9_lays 4 = .ok (.bipush 100, 2) := by decide +kernel
theorem dX9_lays_6 : decode cX9_lays 6 = .ok (.if_icmp .eq 51, 3) := by decide +kernel
theorem dX9_lays_9 : decode cX9_lays 9 = .ok (.aload_n 0, 1) := by decide +kernel
theorem dX9_lays_10 : decode cX9_lays 10 = .ok (.invokevirtual 207, 3) := by decide +kernel
theorem dX9_lays_13 : decode cX9_lays 13 = .ok (.ifCond .eq 44, 3) := by decide +kernel
theorem dX9_lays_16 : decode cX9_lays 16 = .ok (.aload_n 0, 1) := by decide +kernel
theorem dX9_lays_17 : decode cX9_lays 17 = .ok (.getfield 146, 3) := by decide +kernel
theorem dX9_lays_20 : decode cX9_lays 20 = .ok (.bipush 12, 2) := by decide +kernel
theorem dX9_lays_22 : decode cX9_lays 22 = .ok (.if_icmp .eq 35, 3) := by decide +kernel
theorem dX9_lays_25 : decode cX9_lays 25 = .ok (.aload_n 0, 1) := by decide +kernel
theorem dX9_lays_26 : decode cX9_lays 26 = .ok (.getfield 153, 3) := by decide +kernel
theorem dX9_lays_29 : decode cX9_lays 29 = .ok (.ifCond .ne 28, 3) := by decide +kernel
theorem dX9_lays_32 : decode cX9_lays 32 = .ok (.aload_n 0, 1) := by decide +kernel
theorem dX9_lays_33 : decode cX9_lays 33 = .ok (.getfield 20, 3) := by decide +kernel
theorem dX9_lays_36 : decode cX9_lays 36 = .ok (.aload_n 0, 1) := by decide +kernel
theorem dX9_lays_37 : decode cX9_lays 37 = .ok (.getfield 135, 3) := by decide +kernel
theorem dX9_lays_40 : decode cX9_lays 40 = .ok (.baload, 1) := by decide +kernel
theorem dX9_lays_41 : decode cX9_lays 41 = .ok (.ifCond .ne 16, 3) := by decide +kernel
theorem dX9_lays_44 : decode cX9_lays 44 = .ok (.aload_n 0, 1) := by decide +kernel
theorem dX9_lays_45 : decode cX9_lays 45 = .ok (.getfield 23, 3) := by decide +kernel
theorem dX9_lays_48 : decode cX9_lays 48 = .ok (.aload_n 0, 1) := by decide +kernel
theorem dX9_lays_49 : decode cX9_lays 49 = .ok (.getfield 135, 3) := by decide +kernel
theorem dX9_lays_52 : decode cX9_lays 52 = .ok (.iaload, 1) := by decide +kernel
theorem dX9_lays_53 : decode cX9_lays 53 = .ok (.iconst 1, 1) := by decide +kernel
theorem dX9_lays_54 : decode cX9_lays 54 = .ok (.if_icmp .ne 5, 3) := by decide +kernel
theorem dX9_lays_57 : decode cX9_lays 57 = .ok (.iconst 0, 1) := by decide +kernel
theorem dX9_lays_58 : decode cX9_lays 58 = .ok (.ireturn, 1) := by decide +kernel
theorem dX9_lays_59 : decode cX9_lays 59 = .ok (.aload_n 0, 1) := by decide +kernel
theorem dX9_lays_60 : decode cX9_lays 60 = .ok (.aload_n 0, 1) := by decide +kernel
theorem dX9_lays_61 : decode cX9_lays 61 = .ok (.getfield 135, 3) := by decide +kernel
theorem dX9_lays_64 : decode cX9_lays 64 = .ok (.invokevirtual 210, 3) := by decide +kernel
theorem dX9_lays_67 : decode cX9_lays 67 = .ok (.aload_n 0, 1) := by decide +kernel
theorem dX9_lays_68 : decode cX9_lays 68 = .ok (.aload_n 0, 1) := by decide +kernel
theorem dX9_lays_69 : decode cX9_lays 69 = .ok (.getfield 135, 3) := by decide +kernel
theorem dX9_lays_72 : decode cX9_lays 72 = .ok (.invokevirtual 210, 3) := by decide +kernel
theorem dX9_lays_75 : decode cX9_lays 75 = .ok (.iload_n 1, 1) := by decide +kernel
theorem dX9_lays_76 : decode cX9_lays 76 = .ok (.imul, 1) := by decide +kernel
theorem dX9_lays_77 : decode cX9_lays 77 = .ok (.sipush 1000, 3) := by decide +kernel
theorem dX9_lays_80 : decode cX9_lays 80 = .ok (.idiv, 1) := by decide +kernel
theorem dX9_lays_81 : decode cX9_lays 81 = .ok (.iadd, 1) := by decide +kernel
theorem dX9_lays_82 : decode cX9_lays 82 = .ok (.istore_n 3, 1) := by decide +kernel
theorem dX9_lays_83 : decode cX9_lays 83 = .ok (.aload_n 0, 1) := by decide +kernel
theorem dX9_lays_84 : decode cX9_lays 84 = .ok (.iload_n 2, 1) := by decide +kernel
theorem dX9_lays_85 : decode cX9_lays 85 = .ok (.iload_n 3, 1) := by decide +kernel
theorem dX9_lays_86 : decode cX9_lays 86 = .ok (.invokevirtual 213, 3) := by decide +kernel
theorem dX9_lays_89 : decode cX9_lays 89 = .ok (.ifCond .eq 26, 3) := by decide +kernel
theorem dX9_lays_92 : decode cX9_lays 92 = .ok (.aload_n 0, 1) := by decide +kernel
theorem dX9_lays_93 : decode cX9_lays 93 = .ok (.aload_n 0, 1) := by decide +kernel
theorem dX9_lays_94 : decode cX9_lays 94 = .ok (.getfield 135, 3) := by decide +kernel
theorem dX9_lays_97 : decode cX9_lays 97 = .ok (.invokevirtual 217, 3) := by decide +kernel
theorem dX9_lays_100 : decode cX9_lays 100 = .ok (.ifCond .eq 15, 3) := by decide +kernel
theorem dX9_lays_103 : decode cX9_lays 103 = .ok (.aload_n 0, 1) := by decide +kernel
theorem dX9_lays_104 : decode cX9_lays 104 = .ok (.aload_n 0, 1) := by decide +kernel
theorem dX9_lays_105 : decode cX9_lays 105 = .ok (.invokevirtual 220, 3) := by decide +kernel
theorem dX9_lays_108 : decode cX9_lays 108 = .ok (.iconst (-1), 1) := by decide +kernel
theorem dX9_lays_109 : decode cX9_lays 109 = .ok (.invokevirtual 223, 3) := by decide +kernel
theorem dX9_lays_112 : decode cX9_lays 112 = .ok (.ifCond .ne 5, 3) := by decide +kernel
theorem dX9_lays_115 : decode cX9_lays 115 = .ok (.iconst 0, 1) := by decide +kernel
theorem dX9_lays_116 : decode cX9_lays 116 = .ok (.ireturn, 1) := by decide +kernel
theorem dX9_lays_117 : decode cX9_lays 117 = .ok (.aload_n 0, 1) := by decide +kernel
theorem dX9_lays_118 : decode cX9_lays 118 = .ok (.iload_n 2, 1) := by decide +kernel
theorem dX9_lays_119 : decode cX9_lays 119 = .ok (.invokevirtual 226, 3) := by decide +kernel
theorem dX9_lays_122 : decode cX9_lays 122 = .ok (.aload_n 0, 1) := by decide +kernel
theorem dX9_lays_123 : decode cX9_lays 123 = .ok (.invokevirtual 230, 3) := by decide +kernel
theorem dX9_lays_126 : decode cX9_lays 126 = .ok (.aload_n 0, 1) := by decide +kernel
theorem dX9_lays_127 : decode cX9_lays 127 = .ok (.getfield 74, 3) := by decide +kernel
theorem dX9_lays_130 : decode cX9_lays 130 = .ok (.aload_n 0, 1) := by decide +kernel
theorem dX9_lays_131 : decode cX9_lays 131 = .ok (.getfield 135, 3) := by decide +kernel
theorem dX9_lays_134 : decode cX9_lays 134 = .ok (.iload_n 3, 1) := by decide +kernel
theorem dX9_lays_135 : decode cX9_lays 135 = .ok (.iastore, 1) := by decide +kernel
theorem dX9_lays_136 : decode cX9_lays 136 = .ok (.aload_n 0, 1) := by decide +kernel
theorem dX9_lays_137 : decode cX9_lays 137 = .ok (.dup, 1) := by decide +kernel
theorem dX9_lays_138 : decode cX9_lays 138 = .ok (.getfield 135, 3) := by decide +kernel
theorem dX9_lays_141 : decode cX9_lays 141 = .ok (.iconst 1, 1) := by decide +kernel
theorem dX9_lays_142 : decode cX9_lays 142 = .ok (.iadd, 1) := by decide +kernel
theorem dX9_lays_143 : decode cX9_lays 143 = .ok (.putfield 135, 3) := by decide +kernel
theorem dX9_lays_146 : decode cX9_lays 146 = .ok (.aload_n 0, 1) := by decide +kernel
theorem dX9_lays_147 : decode cX9_lays 147 = .ok (.dup, 1) := by decide +kernel
theorem dX9_lays_148 : decode cX9_lays 148 = .ok (.getfield 146, 3) := by decide +kernel
theorem dX9_lays_151 : decode cX9_lays 151 = .ok (.iconst 1, 1) := by decide +kernel
theorem dX9_lays_152 : decode cX9_lays 152 = .ok (.iadd, 1) := by decide +kernel
theorem dX9_lays_153 : decode cX9_lays 153 = .ok (.putfield 146, 3) := by decide +kernel
theorem dX9_lays_156 : decode cX9_lays 156 = .ok (.iconst 1, 1) := by decide +kernel
theorem dX9_lays_157 : decode cX9_lays 157 = .ok (.ireturn, 1) := by decide +kernel
theorem dX9_lay_0 : decode cX9_lay 0 = .ok (.iload_n 1, 1) := by decide +kernel
theorem dX9_lay_1 : decode cX9_lay 1 = .ok (.iconst 1, 1) := by decide +kernel
theorem dX9_lay_2 : decode cX9_lay 2 = .ok (.bipush 12, 2) := by decide +kernel
theorem dX9_lay_4 : decode cX9_lay 4 = .ok (.invokestatic 123, 3) := by decide +kernel
theorem dX9_lay_7 : decode cX9_lay 7 = .ok (.ifCond .eq 26, 3) := by decide +kernel
theorem dX9_lay_10 : decode cX9_lay 10 = .ok (.iload_n 2, 1) := by decide +kernel
theorem dX9_lay_11 : decode cX9_lay 11 = .ok (.iconst 0, 1) := by decide +kernel
theorem dX9_lay_12 : decode cX9_lay 12 = .ok (.bipush 50, 2) := by decide +kernel
theorem dX9_lay_14 : decode cX9_lay 14 = .ok (.invokestatic 123, 3) := by decide +kernel
theorem dX9_lay_17 : decode cX9_lay 17 = .ok (.ifCond .eq 16, 3) := by decide +kernel
theorem dX9_lay_20 : decode cX9_lay 20 = .ok (.iload_n 3, 1) := by decide +kernel
theorem dX9_lay_21 : decode cX9_lay 21 = .ok (.iconst 0, 1) := by decide +kernel
theorem dX9_lay_22 : decode cX9_lay 22 = .ok (.iconst 2, 1) := by decide +kernel
theorem dX9_lay_23 : decode cX9_lay 23 = .ok (.invokestatic 123, 3) := by decide +kernel
theorem dX9_lay_26 : decode cX9_lay 26 = .ok (.ifCond .eq 7, 3) := by decide +kernel
theorem dX9_lay_29 : decode cX9_lay 29 = .ok (.iconst 1, 1) := by decide +kernel
theorem dX9_lay_30 : decode cX9_lay 30 = .ok (.goto 4, 3) := by decide +kernel
theorem dX9_lay_33 : decode cX9_lay 33 = .ok (.iconst 0, 1) := by decide +kernel
theorem dX9_lay_34 : decode cX9_lay 34 = .ok (.istore 4, 2) := by decide +kernel
theorem dX9_lay_36 : decode cX9_lay 36 = .ok (.aload_n 0, 1) := by decide +kernel
theorem dX9_lay_37 : decode cX9_lay 37 = .ok (.iload 4, 2) := by decide +kernel
theorem dX9_lay_39 : decode cX9_lay 39 = .ok (.ifCond .ne 7, 3) := by decide +kernel
theorem dX9_lay_42 : decode cX9_lay 42 = .ok (.iconst 1, 1) := by decide +kernel
theorem dX9_lay_43 : decode cX9_lay 43 = .ok (.goto 15, 3) := by decide +kernel
theorem dX9_lay_46 : decode cX9_lay 46 = .ok (.aload_n 0, 1) := by decide +kernel
theorem dX9_lay_47 : decode cX9_lay 47 = .ok (.invokevirtual 149, 3) := by decide +kernel
theorem dX9_lay_50 : decode cX9_lay 50 = .ok (.ifCond .eq 7, 3) := by decide +kernel
theorem dX9_lay_53 : decode cX9_lay 53 = .ok (.iconst 2, 1) := by decide +kernel
theorem dX9_lay_54 : decode cX9_lay 54 = .ok (.goto 4, 3) := by decide +kernel
theorem dX9_lay_57 : decode cX9_lay 57 = .ok (.iconst 0, 1) := by decide +kernel
theorem dX9_lay_58 : decode cX9_lay 58 = .ok (.putfield 120, 3) := by decide +kernel
theorem dX9_lay_61 : decode cX9_lay 61 = .ok (.iconst 0, 1) := by decide +kernel
theorem dX9_lay_62 : decode cX9_lay 62 = .ok (.istore 5, 2) := by decide +kernel
theorem dX9_lay_64 : decode cX9_lay 64 = .ok (.aload_n 0, 1) := by decide +kernel
theorem dX9_lay_65 : decode cX9_lay 65 = .ok (.getfield 120, 3) := by decide +kernel
theorem dX9_lay_68 : decode cX9_lay 68 = .ok (.ifCond .ne 24, 3) := by decide +kernel
theorem dX9_lay_71 : decode cX9_lay 71 = .ok (.iload 5, 2) := by decide +kernel
theorem dX9_lay_73 : decode cX9_lay 73 = .ok (.iload_n 1, 1) := by decide +kernel
theorem dX9_lay_74 : decode cX9_lay 74 = .ok (.if_icmp .ge 18, 3) := by decide +kernel
theorem dX9_lay_77 : decode cX9_lay 77 = .ok (.aload_n 0, 1) := by decide +kernel
theorem dX9_lay_78 : decode cX9_lay 78 = .ok (.iload_n 2, 1) := by decide +kernel
theorem dX9_lay_79 : decode cX9_lay 79 = .ok (.iload_n 3, 1) := by decide +kernel
theorem dX9_lay_80 : decode cX9_lay 80 = .ok (.invokevirtual 233, 3) := by decide +kernel
theorem dX9_lay_83 : decode cX9_lay 83 = .ok (.ifCond .eq 9, 3) := by decide +kernel
theorem dX9_lay_86 : decode cX9_lay 86 = .ok (.iinc 5 1, 3) := by decide +kernel
theorem dX9_lay_89 : decode cX9_lay 89 = .ok (.goto (-25), 3) := by decide +kernel
theorem dX9_lay_92 : decode cX9_lay 92 = .ok (.iload 5, 2) := by decide +kernel
theorem dX9_lay_94 : decode cX9_lay 94 = .ok (.ireturn, 1) := by decide +kernel
theorem dX9_many_0 : decode cX9_many 0 = .ok (.iconst 0, 1) := by decide +kernel
theorem dX9_many_1 : decode cX9_many 1 = .ok (.istore_n 2, 1) := by decide +kernel
theorem dX9_many_2 : decode cX9_many 2 = .ok (.iconst 0, 1) := by decide +kernel
theorem dX9_many_3 : decode cX9_many 3 = .ok (.istore_n 3, 1) := by decide +kernel
theorem dX9_many_4 : decode cX9_many 4 = .ok (.iload_n 3, 1) := by decide +kernel
theorem dX9_many_5 : decode cX9_many 5 = .ok (.aload_n 0, 1) := by decide +kernel
theorem dX9_many_6 : decode cX9_many 6 = .ok (.getfield 171, 3) := by decide +kernel
theorem dX9_many_9 : decode cX9_many 9 = .ok (.if_icmp .ge 27, 3) := by decide +kernel
theorem dX9_many_12 : decode cX9_many 12 = .ok (.iload_n 2, 1) := by decide +kernel
theorem dX9_many_13 : decode cX9_many 13 = .ok (.aload_n 0, 1) := by decide +kernel
theorem dX9_many_14 : decode cX9_many 14 = .ok (.getfield 50, 3) := by decide +kernel
theorem dX9_many_17 : decode cX9_many 17 = .ok (.iload_n 3, 1) := by decide +kernel
theorem dX9_many_18 : decode cX9_many 18 = .ok (.iaload, 1) := by decide +kernel
theorem dX9_many_19 : decode cX9_many 19 = .ok (.iload_n 1, 1) := by decide +kernel
theorem dX9_many_20 : decode cX9_many 20 = .ok (.if_icmp .ne 7, 3) := by decide +kernel
theorem dX9_many_23 : decode cX9_many 23 = .ok (.iconst 1, 1) := by decide +kernel
theorem dX9_many_24 : decode cX9_many 24 = .ok (.goto 4, 3) := by decide +kernel
theorem dX9_many_27 : decode cX9_many 27 = .ok (.iconst 0, 1) := by decide +kernel
theorem dX9_many_28 : decode cX9_many 28 = .ok (.iadd, 1) := by decide +kernel
theorem dX9_many_29 : decode cX9_many 29 = .ok (.istore_n 2, 1) := by decide +kernel
theorem dX9_many_30 : decode cX9_many 30 = .ok (.iinc 3 1, 3) := by decide +kernel
theorem dX9_many_33 : decode cX9_many 33 = .ok (.goto (-29), 3) := by decide +kernel
theorem dX9_many_36 : decode cX9_many 36 = .ok (.iload_n 2, 1) := by decide +kernel
theorem dX9_many_37 : decode cX9_many 37 = .ok (.ireturn, 1) := by decide +kernel
theorem dX9_repeater_0 : decode cX9_repeater 0 = .ok (.aload_n 0, 1) := by decide +kernel
theorem dX9_repeater_1 : decode cX9_repeater 1 = .ok (.invokevirtual 160, 3) := by decide +kernel
theorem dX9_repeater_4 : decode cX9_repeater 4 = .ok (.ifCond .le 29, 3) := by decide +kernel
theorem dX9_repeater_7 : decode cX9_repeater 7 = .ok (.aload_n 0, 1) := by decide +kernel
theorem dX9_repeater_8 : decode cX9_repeater 8 = .ok (.getfield 153, 3) := by decide +kernel
theorem dX9_repeater_11 : decode cX9_repeater 11 = .ok (.ifCond .ne 22, 3) := by decide +kernel
theorem dX9_repeater_14 : decode cX9_repeater 14 = .ok (.aload_n 0, 1) := by decide +kernel
theorem dX9_repeater_15 : decode cX9_repeater 15 = .ok (.getfield 50, 3) := by decide +kernel
theorem dX9_repeater_18 : decode cX9_repeater 18 = .ok (.aload_n 0, 1) := by decide +kernel
theorem dX9_repeater_19 : decode cX9_repeater 19 = .ok (.getfield 171, 3) := by decide +kernel
theorem dX9_repeater_22 : decode cX9_repeater 22 = .ok (.iconst 1, 1) := by decide +kernel
theorem dX9_repeater_23 : decode cX9_repeater 23 = .ok (.isub, 1) := by decide +kernel
theorem dX9_repeater_24 : decode cX9_repeater 24 = .ok (.iaload, 1) := by decide +kernel
theorem dX9_repeater_25 : decode cX9_repeater 25 = .ok (.iconst 2, 1) := by decide +kernel
theorem dX9_repeater_26 : decode cX9_repeater 26 = .ok (.if_icmp .eq 7, 3) := by decide +kernel
theorem dX9_repeater_29 : decode cX9_repeater 29 = .ok (.iconst 1, 1) := by decide +kernel
theorem dX9_repeater_30 : decode cX9_repeater 30 = .ok (.goto 4, 3) := by decide +kernel
theorem dX9_repeater_33 : decode cX9_repeater 33 = .ok (.iconst 0, 1) := by decide +kernel
theorem dX9_repeater_34 : decode cX9_repeater 34 = .ok (.istore_n 1, 1) := by decide +kernel
theorem dX9_repeater_35 : decode cX9_repeater 35 = .ok (.aload_n 0, 1) := by decide +kernel
theorem dX9_repeater_36 : decode cX9_repeater 36 = .ok (.iload_n 1, 1) := by decide +kernel
theorem dX9_repeater_37 : decode cX9_repeater 37 = .ok (.ifCond .eq 7, 3) := by decide +kernel
theorem dX9_repeater_40 : decode cX9_repeater 40 = .ok (.iconst 0, 1) := by decide +kernel
theorem dX9_repeater_41 : decode cX9_repeater 41 = .ok (.goto 4, 3) := by decide +kernel
theorem dX9_repeater_44 : decode cX9_repeater 44 = .ok (.iconst 1, 1) := by decide +kernel
theorem dX9_repeater_45 : decode cX9_repeater 45 = .ok (.putfield 120, 3) := by decide +kernel
theorem dX9_repeater_48 : decode cX9_repeater 48 = .ok (.aload_n 0, 1) := by decide +kernel
theorem dX9_repeater_49 : decode cX9_repeater 49 = .ok (.getfield 120, 3) := by decide +kernel
theorem dX9_repeater_52 : decode cX9_repeater 52 = .ok (.ifCond .le 5, 3) := by decide +kernel
theorem dX9_repeater_55 : decode cX9_repeater 55 = .ok (.iconst 0, 1) := by decide +kernel
theorem dX9_repeater_56 : decode cX9_repeater 56 = .ok (.ireturn, 1) := by decide +kernel
theorem dX9_repeater_57 : decode cX9_repeater 57 = .ok (.aload_n 0, 1) := by decide +kernel
theorem dX9_repeater_58 : decode cX9_repeater 58 = .ok (.iconst 2, 1) := by decide +kernel
theorem dX9_repeater_59 : decode cX9_repeater 59 = .ok (.iconst (-1), 1) := by decide +kernel
theorem dX9_repeater_60 : decode cX9_repeater 60 = .ok (.iconst (-1), 1) := by decide +kernel
theorem dX9_repeater_61 : decode cX9_repeater 61 = .ok (.iconst (-1), 1) := by decide +kernel
theorem dX9_repeater_62 : decode cX9_repeater 62 = .ok (.invokevirtual 203, 3) := by decide +kernel
theorem dX9_repeater_65 : decode cX9_repeater 65 = .ok (.aload_n 0, 1) := by decide +kernel
theorem dX9_repeater_66 : decode cX9_repeater 66 = .ok (.iconst 2, 1) := by decide +kernel
theorem dX9_repeater_67 : decode cX9_repeater 67 = .ok (.invokevirtual 236, 3) := by decide +kernel
theorem dX9_repeater_70 : decode cX9_repeater 70 = .ok (.ireturn, 1) := by decide +kernel
theorem dX9_takeUp_0 : decode cX9_takeUp 0 = .ok (.aload_n 0, 1) := by decide +kernel
theorem dX9_takeUp_1 : decode cX9_takeUp 1 = .ok (.iload_n 1, 1) := by decide +kernel
theorem dX9_takeUp_2 : decode cX9_takeUp 2 = .ok (.iconst 0, 1) := by decide +kernel
theorem dX9_takeUp_3 : decode cX9_takeUp 3 = .ok (.iconst 2, 1) := by decide +kernel
theorem dX9_takeUp_4 : decode cX9_takeUp 4 = .ok (.invokestatic 123, 3) := by decide +kernel
theorem dX9_takeUp_7 : decode cX9_takeUp 7 = .ok (.ifCond .ne 7, 3) := by decide +kernel
theorem dX9_takeUp_10 : decode cX9_takeUp 10 = .ok (.iconst 1, 1) := by decide +kernel
theorem dX9_takeUp_11 : decode cX9_takeUp 11 = .ok (.goto 46, 3) := by decide +kernel
theorem dX9_takeUp_14 : decode cX9_takeUp 14 = .ok (.aload_n 0, 1) := by decide +kernel
theorem dX9_takeUp_15 : decode cX9_takeUp 15 = .ok (.getfield 153, 3) := by decide +kernel
theorem dX9_takeUp_18 : decode cX9_takeUp 18 = .ok (.ifCond .eq 34, 3) := by decide +kernel
theorem dX9_takeUp_21 : decode cX9_takeUp 21 = .ok (.aload_n 0, 1) := by decide +kernel
theorem dX9_takeUp_22 : decode cX9_takeUp 22 = .ok (.invokevirtual 207, 3) := by decide +kernel
theorem dX9_takeUp_25 : decode cX9_takeUp 25 = .ok (.ifCond .eq 27, 3) := by decide +kernel
theorem dX9_takeUp_28 : decode cX9_takeUp 28 = .ok (.aload_n 0, 1) := by decide +kernel
theorem dX9_takeUp_29 : decode cX9_takeUp 29 = .ok (.iload_n 1, 1) := by decide +kernel
theorem dX9_takeUp_30 : decode cX9_takeUp 30 = .ok (.aload_n 0, 1) := by decide +kernel
theorem dX9_takeUp_31 : decode cX9_takeUp 31 = .ok (.getfield 164, 3) := by decide +kernel
theorem dX9_takeUp_34 : decode cX9_takeUp 34 = .ok (.invokevirtual 213, 3) := by decide +kernel
theorem dX9_takeUp_37 : decode cX9_takeUp 37 = .ok (.ifCond .eq 15, 3) := by decide +kernel
theorem dX9_takeUp_40 : decode cX9_takeUp 40 = .ok (.aload_n 0, 1) := by decide +kernel
theorem dX9_takeUp_41 : decode cX9_takeUp 41 = .ok (.aload_n 0, 1) := by decide +kernel
theorem dX9_takeUp_42 : decode cX9_takeUp 42 = .ok (.invokevirtual 220, 3) := by decide +kernel
theorem dX9_takeUp_45 : decode cX9_takeUp 45 = .ok (.iconst (-1), 1) := by decide +kernel
theorem dX9_takeUp_46 : decode cX9_takeUp 46 = .ok (.invokevirtual 223, 3) := by decide +kernel
theorem dX9_takeUp_49 : decode cX9_takeUp 49 = .ok (.ifCond .ne 7, 3) := by decide +kernel
theorem dX9_takeUp_52 : decode cX9_takeUp 52 = .ok (.iconst 2, 1) := by decide +kernel
theorem dX9_takeUp_53 : decode cX9_takeUp 53 = .ok (.goto 4, 3) := by decide +kernel
theorem dX9_takeUp_56 : decode cX9_takeUp 56 = .ok (.iconst 0, 1) := by decide +kernel
theorem dX9_takeUp_57 : decode cX9_takeUp 57 = .ok (.putfield 120, 3) := by decide +kernel
theorem dX9_takeUp_60 : decode cX9_takeUp 60 = .ok (.aload_n 0, 1) := by decide +kernel
theorem dX9_takeUp_61 : decode cX9_takeUp 61 = .ok (.getfield 120, 3) := by decide +kernel
theorem dX9_takeUp_64 : decode cX9_takeUp 64 = .ok (.ifCond .le 5, 3) := by decide +kernel
theorem dX9_takeUp_67 : decode cX9_takeUp 67 = .ok (.iconst 0, 1) := by decide +kernel
theorem dX9_takeUp_68 : decode cX9_takeUp 68 = .ok (.ireturn, 1) := by decide +kernel
theorem dX9_takeUp_69 : decode cX9_takeUp 69 = .ok (.aload_n 0, 1) := by decide +kernel
theorem dX9_takeUp_70 : decode cX9_takeUp 70 = .ok (.iload_n 1, 1) := by decide +kernel
theorem dX9_takeUp_71 : decode cX9_takeUp 71 = .ok (.invokevirtual 226, 3) := by decide +kernel
theorem dX9_takeUp_74 : decode cX9_takeUp 74 = .ok (.aload_n 0, 1) := by decide +kernel
theorem dX9_takeUp_75 : decode cX9_takeUp 75 = .ok (.getfield 164, 3) := by decide +kernel
theorem dX9_takeUp_78 : decode cX9_takeUp 78 = .ok (.ifCond .le 11, 3) := by decide +kernel
theorem dX9_takeUp_81 : decode cX9_takeUp 81 = .ok (.aload_n 0, 1) := by decide +kernel
theorem dX9_takeUp_82 : decode cX9_takeUp 82 = .ok (.iconst 1, 1) := by decide +kernel
theorem dX9_takeUp_83 : decode cX9_takeUp 83 = .ok (.iconst (-1), 1) := by decide +kernel
theorem dX9_takeUp_84 : decode cX9_takeUp 84 = .ok (.iconst (-1), 1) := by decide +kernel
theorem dX9_takeUp_85 : decode cX9_takeUp 85 = .ok (.iconst (-1), 1) := by decide +kernel
theorem dX9_takeUp_86 : decode cX9_takeUp 86 = .ok (.invokevirtual 203, 3) := by decide +kernel
theorem dX9_takeUp_89 : decode cX9_takeUp 89 = .ok (.aload_n 0, 1) := by decide +kernel
theorem dX9_takeUp_90 : decode cX9_takeUp 90 = .ok (.invokevirtual 230, 3) := by decide +kernel
theorem dX9_takeUp_93 : decode cX9_takeUp 93 = .ok (.aload_n 0, 1) := by decide +kernel
theorem dX9_takeUp_94 : decode cX9_takeUp 94 = .ok (.getfield 74, 3) := by decide +kernel
theorem dX9_takeUp_97 : decode cX9_takeUp 97 = .ok (.aload_n 0, 1) := by decide +kernel
theorem dX9_takeUp_98 : decode cX9_takeUp 98 = .ok (.getfield 135, 3) := by decide +kernel
theorem dX9_takeUp_101 : decode cX9_takeUp 101 = .ok (.ifCond .le 12, 3) := by decide +kernel
theorem dX9_takeUp_104 : decode cX9_takeUp 104 = .ok (.aload_n 0, 1) := by decide +kernel
theorem dX9_takeUp_105 : decode cX9_takeUp 105 = .ok (.getfield 135, 3) := by decide +kernel
theorem dX9_takeUp_108 : decode cX9_takeUp 108 = .ok (.iconst 1, 1) := by decide +kernel
theorem dX9_takeUp_109 : decode cX9_takeUp 109 = .ok (.isub, 1) := by decide +kernel
theorem dX9_takeUp_110 : decode cX9_takeUp 110 = .ok (.goto 4, 3) := by decide +kernel
theorem dX9_takeUp_113 : decode cX9_takeUp 113 = .ok (.iconst 0, 1) := by decide +kernel
theorem dX9_takeUp_114 : decode cX9_takeUp 114 = .ok (.dup2, 1) := by decide +kernel
theorem dX9_takeUp_115 : decode cX9_takeUp 115 = .ok (.iaload, 1) := by decide +kernel
theorem dX9_takeUp_116 : decode cX9_takeUp 116 = .ok (.aload_n 0, 1) := by decide +kernel
theorem dX9_takeUp_117 : decode cX9_takeUp 117 = .ok (.getfield 164, 3) := by decide +kernel
theorem dX9_takeUp_120 : decode cX9_takeUp 120 = .ok (.iadd, 1) := by decide +kernel
theorem dX9_takeUp_121 : decode cX9_takeUp 121 = .ok (.iastore, 1) := by decide +kernel
theorem dX9_takeUp_122 : decode cX9_takeUp 122 = .ok (.aload_n 0, 1) := by decide +kernel
theorem dX9_takeUp_123 : decode cX9_takeUp 123 = .ok (.iconst 0, 1) := by decide +kernel
theorem dX9_takeUp_124 : decode cX9_takeUp 124 = .ok (.putfield 153, 3) := by decide +kernel
theorem dX9_takeUp_127 : decode cX9_takeUp 127 = .ok (.aload_n 0, 1) := by decide +kernel
theorem dX9_takeUp_128 : decode cX9_takeUp 128 = .ok (.getfield 164, 3) := by decide +kernel
theorem dX9_takeUp_131 : decode cX9_takeUp 131 = .ok (.istore_n 2, 1) := by decide +kernel
theorem dX9_takeUp_132 : decode cX9_takeUp 132 = .ok (.aload_n 0, 1) := by decide +kernel
theorem dX9_takeUp_133 : decode cX9_takeUp 133 = .ok (.iconst 0, 1) := by decide +kernel
theorem dX9_takeUp_134 : decode cX9_takeUp 134 = .ok (.putfield 164, 3) := by decide +kernel
theorem dX9_takeUp_137 : decode cX9_takeUp 137 = .ok (.aload_n 0, 1) := by decide +kernel
theorem dX9_takeUp_138 : decode cX9_takeUp 138 = .ok (.invokevirtual 180, 3) := by decide +kernel
theorem dX9_takeUp_141 : decode cX9_takeUp 141 = .ok (.iload_n 2, 1) := by decide +kernel
theorem dX9_takeUp_142 : decode cX9_takeUp 142 = .ok (.ireturn, 1) := by decide +kernel
theorem dX9_feed_0 : decode cX9_feed 0 = .ok (.aload_n 0, 1) := by decide +kernel
theorem dX9_feed_1 : decode cX9_feed 1 = .ok (.iload_n 1, 1) := by decide +kernel
theorem dX9_feed_2 : decode cX9_feed 2 = .ok (.iconst 0, 1) := by decide +kernel
theorem dX9_feed_3 : decode cX9_feed 3 = .ok (.sipush 9999, 3) := by decide +kernel
theorem dX9_feed_6 : decode cX9_feed 6 = .ok (.invokestatic 123, 3) := by decide +kernel
theorem dX9_feed_9 : decode cX9_feed 9 = .ok (.ifCond .eq 18, 3) := by decide +kernel
theorem dX9_feed_12 : decode cX9_feed 12 = .ok (.iload_n 2, 1) := by decide +kernel
theorem dX9_feed_13 : decode cX9_feed 13 = .ok (.iconst 0, 1) := by decide +kernel
theorem dX9_feed_14 : decode cX9_feed 14 = .ok (.sipush 9999, 3) := by decide +kernel
theorem dX9_feed_17 : decode cX9_feed 17 = .ok (.invokestatic 123, 3) := by decide +kernel
theorem dX9_feed_20 : decode cX9_feed 20 = .ok (.ifCond .eq 7, 3) := by decide +kernel
theorem dX9_feed_23 : decode cX9_feed 23 = .ok (.iconst 0, 1) := by decide +kernel
theorem dX9_feed_24 : decode cX9_feed 24 = .ok (.goto 4, 3) := by decide +kernel
theorem dX9_feed_27 : decode cX9_feed 27 = .ok (.iconst 1, 1) := by decide +kernel
theorem dX9_feed_28 : decode cX9_feed 28 = .ok (.putfield 120, 3) := by decide +kernel
theorem dX9_feed_31 : decode cX9_feed 31 = .ok (.aload_n 0, 1) := by decide +kernel
theorem dX9_feed_32 : decode cX9_feed 32 = .ok (.getfield 120, 3) := by decide +kernel
theorem dX9_feed_35 : decode cX9_feed 35 = .ok (.ifCond .ne 13, 3) := by decide +kernel
theorem dX9_feed_38 : decode cX9_feed 38 = .ok (.aload_n 0, 1) := by decide +kernel
theorem dX9_feed_39 : decode cX9_feed 39 = .ok (.iload_n 1, 1) := by decide +kernel
theorem dX9_feed_40 : decode cX9_feed 40 = .ok (.putfield 238, 3) := by decide +kernel
theorem dX9_feed_43 : decode cX9_feed 43 = .ok (.aload_n 0, 1) := by decide +kernel
theorem dX9_feed_44 : decode cX9_feed 44 = .ok (.iload_n 2, 1) := by decide +kernel
theorem dX9_feed_45 : decode cX9_feed 45 = .ok (.putfield 241, 3) := by decide +kernel
theorem dX9_feed_48 : decode cX9_feed 48 = .ok (.return_, 1) := by decide +kernel
theorem dX9_marginOf_0 : decode cX9_marginOf 0 = .ok (.sipush 3000, 3) := by decide +kernel
theorem dX9_marginOf_3 : decode cX9_marginOf 3 = .ok (.istore_n 1, 1) := by decide +kernel
theorem dX9_marginOf_4 : decode cX9_marginOf 4 = .ok (.sipush 3000, 3) := by decide +kernel
theorem dX9_marginOf_7 : decode cX9_marginOf 7 = .ok (.istore_n 2, 1) := by decide +kernel
theorem dX9_marginOf_8 : decode cX9_marginOf 8 = .ok (.iconst 0, 1) := by decide +kernel
theorem dX9_marginOf_9 : decode cX9_marginOf 9 = .ok (.istore_n 3, 1) := by decide +kernel
theorem dX9_marginOf_10 : decode cX9_marginOf 10 = .ok (.iload_n 3, 1) := by decide +kernel
theorem dX9_marginOf_11 : decode cX9_marginOf 11 = .ok (.aload_n 0, 1) := by decide +kernel
theorem dX9_marginOf_12 : decode cX9_marginOf 12 = .ok (.getfield 171, 3) := by decide +kernel
theorem dX9_marginOf_15 : decode cX9_marginOf 15 = .ok (.if_icmp .ge 94, 3) := by decide +kernel
theorem dX9_marginOf_18 : decode cX9_marginOf 18 = .ok (.aload_n 0, 1) := by decide +kernel
theorem dX9_marginOf_19 : decode cX9_marginOf 19 = .ok (.getfield 50, 3) := by decide +kernel
theorem dX9_marginOf_22 : decode cX9_marginOf 22 = .ok (.iload_n 3, 1) := by decide +kernel
theorem dX9_marginOf_23 : decode cX9_marginOf 23 = .ok (.iaload, 1) := by decide +kernel
theorem dX9_marginOf_24 : decode cX9_marginOf 24 = .ok (.iconst 2, 1) := by decide +kernel
theorem dX9_marginOf_25 : decode cX9_marginOf 25 = .ok (.if_icmp .ne 40, 3) := by decide +kernel
theorem dX9_marginOf_28 : decode cX9_marginOf 28 = .ok (.iload_n 1, 1) := by decide +kernel
theorem dX9_marginOf_29 : decode cX9_marginOf 29 = .ok (.iload_n 2, 1) := by decide +kernel
theorem dX9_marginOf_30 : decode cX9_marginOf 30 = .ok (.if_icmp .ge 7, 3) := by decide +kernel
theorem dX9_marginOf_33 : decode cX9_marginOf 33 = .ok (.iload_n 1, 1) := by decide +kernel
theorem dX9_marginOf_34 : decode cX9_marginOf 34 = .ok (.goto 4, 3) := by decide +kernel
theorem dX9_marginOf_37 : decode cX9_marginOf 37 = .ok (.iload_n 2, 1) := by decide +kernel
theorem dX9_marginOf_38 : decode cX9_marginOf 38 = .ok (.istore_n 2, 1) := by decide +kernel
theorem dX9_marginOf_39 : decode cX9_marginOf 39 = .ok (.iload_n 1, 1) := by decide +kernel
theorem dX9_marginOf_40 : decode cX9_marginOf 40 = .ok (.sipush 1200, 3) := by decide +kernel
theorem dX9_marginOf_43 : decode cX9_marginOf 43 = .ok (.iadd, 1) := by decide +kernel
theorem dX9_marginOf_44 : decode cX9_marginOf 44 = .ok (.sipush 3000, 3) := by decide +kernel
theorem dX9_marginOf_47 : decode cX9_marginOf 47 = .ok (.if_icmp .le 9, 3) := by decide +kernel
theorem dX9_marginOf_50 : decode cX9_marginOf 50 = .ok (.sipush 3000, 3) := by decide +kernel
theorem dX9_marginOf_53 : decode cX9_marginOf 53 = .ok (.goto 8, 3) := by decide +kernel
theorem dX9_marginOf_56 : decode cX9_marginOf 56 = .ok (.iload_n 1, 1) := by decide +kernel
theorem dX9_marginOf_57 : decode cX9_marginOf 57 = .ok (.sipush 1200, 3) := by decide +kernel
theorem dX9_marginOf_60 : decode cX9_marginOf 60 = .ok (.iadd, 1) := by decide +kernel
theorem dX9_marginOf_61 : decode cX9_marginOf 61 = .ok (.istore_n 1, 1) := by decide +kernel
theorem dX9_marginOf_62 : decode cX9_marginOf 62 = .ok (.goto 41, 3) := by decide +kernel
theorem dX9_marginOf_65 : decode cX9_marginOf 65 = .ok (.iload_n 1, 1) := by decide +kernel
theorem dX9_marginOf_66 : decode cX9_marginOf 66 = .ok (.aload_n 0, 1) := by decide +kernel
theorem dX9_marginOf_67 : decode cX9_marginOf 67 = .ok (.getfield 50, 3) := by decide +kernel
theorem dX9_marginOf_70 : decode cX9_marginOf 70 = .ok (.iload_n 3, 1) := by decide +kernel
theorem dX9_marginOf_71 : decode cX9_marginOf 71 = .ok (.iaload, 1) := by decide +kernel
theorem dX9_marginOf_72 : decode cX9_marginOf 72 = .ok (.iconst 1, 1) := by decide +kernel
theorem dX9_marginOf_73 : decode cX9_marginOf 73 = .ok (.if_icmp .ne 7, 3) := by decide +kernel
theorem dX9_marginOf_76 : decode cX9_marginOf 76 = .ok (.iconst 5, 1) := by decide +kernel
theorem dX9_marginOf_77 : decode cX9_marginOf 77 = .ok (.goto 24, 3) := by decide +kernel
theorem dX9_marginOf_80 : decode cX9_marginOf 80 = .ok (.aload_n 0, 1) := by decide +kernel
theorem dX9_marginOf_81 : decode cX9_marginOf 81 = .ok (.iload_n 3, 1) := by decide +kernel
theorem dX9_marginOf_82 : decode cX9_marginOf 82 = .ok (.invokevirtual 174, 3) := by decide +kernel
theorem dX9_marginOf_85 : decode cX9_marginOf 85 = .ok (.bipush 100, 2) := by decide +kernel
theorem dX9_marginOf_87 : decode cX9_marginOf 87 = .ok (.aload_n 0, 1) := by decide +kernel
theorem dX9_marginOf_88 : decode cX9_marginOf 88 = .ok (.getfield 139, 3) := by decide +kernel
theorem dX9_marginOf_91 : decode cX9_marginOf 91 = .ok (.sipush 365, 3) := by decide +kernel
theorem dX9_marginOf_94 : decode cX9_marginOf 94 = .ok (.idiv, 1) := by decide +kernel
theorem dX9_marginOf_95 : decode cX9_marginOf 95 = .ok (.iadd, 1) := by decide +kernel
theorem dX9_marginOf_96 : decode cX9_marginOf 96 = .ok (.imul, 1) := by decide +kernel
theorem dX9_marginOf_97 : decode cX9_marginOf 97 = .ok (.sipush 5000, 3) := by decide +kernel
theorem dX9_marginOf_100 : decode cX9_marginOf 100 = .ok (.idiv, 1) := by decide +kernel
theorem dX9_marginOf_101 : decode cX9_marginOf 101 = .ok (.isub, 1) := by decide +kernel
theorem dX9_marginOf_102 : decode cX9_marginOf 102 = .ok (.istore_n 1, 1) := by decide +kernel
theorem dX9_marginOf_103 : decode cX9_marginOf 103 = .ok (.iinc 3 1, 3) := by decide +kernel
theorem dX9_marginOf_106 : decode cX9_marginOf 106 = .ok (.goto (-96), 3) := by decide +kernel
theorem dX9_marginOf_109 : decode cX9_marginOf 109 = .ok (.iload_n 1, 1) := by decide +kernel
theorem dX9_marginOf_110 : decode cX9_marginOf 110 = .ok (.iload_n 2, 1) := by decide +kernel
theorem dX9_marginOf_111 : decode cX9_marginOf 111 = .ok (.if_icmp .ge 7, 3) := by decide +kernel
theorem dX9_marginOf_114 : decode cX9_marginOf 114 = .ok (.iload_n 1, 1) := by decide +kernel
theorem dX9_marginOf_115 : decode cX9_marginOf 115 = .ok (.goto 4, 3) := by decide +kernel
theorem dX9_marginOf_118 : decode cX9_marginOf 118 = .ok (.iload_n 2, 1) := by decide +kernel
theorem dX9_marginOf_119 : decode cX9_marginOf 119 = .ok (.sipush 1500, 3) := by decide +kernel
theorem dX9_marginOf_122 : decode cX9_marginOf 122 = .ok (.isub, 1) := by decide +kernel
theorem dX9_marginOf_123 : decode cX9_marginOf 123 = .ok (.ireturn, 1) := by decide +kernel
theorem dX9_drops_0 : decode cX9_drops 0 = .ok (.iconst 0, 1) := by decide +kernel
theorem dX9_drops_1 : decode cX9_drops 1 = .ok (.istore_n 3, 1) := by decide +kernel
theorem dX9_drops_2 : decode cX9_drops 2 = .ok (.iconst 0, 1) := by decide +kernel
theorem dX9_drops_3 : decode cX9_drops 3 = .ok (.istore 4, 2) := by decide +kernel
theorem dX9_drops_5 : decode cX9_drops 5 = .ok (.iconst 0, 1) := by decide +kernel
theorem dX9_drops_6 : decode cX9_drops 6 = .ok (.istore 5, 2) := by decide +kernel
theorem dX9_drops_8 : decode cX9_drops 8 = .ok (.iload 5, 2) := by decide +kernel
theorem dX9_drops_10 : decode cX9_drops 10 = .ok (.aload_n 0, 1) := by decide +kernel
theorem dX9_drops_11 : decode cX9_drops 11 = .ok (.getfield 171, 3) := by decide +kernel
theorem dX9_drops_14 : decode cX9_drops 14 = .ok (.if_icmp .ge 119, 3) := by decide +kernel
theorem dX9_drops_17 : decode cX9_drops 17 = .ok (.aload_n 0, 1) := by decide +kernel
theorem dX9_drops_18 : decode cX9_drops 18 = .ok (.iload 5, 2) := by decide +kernel
theorem dX9_drops_20 : decode cX9_drops 20 = .ok (.invokevirtual 174, 3) := by decide +kernel
theorem dX9_drops_23 : decode cX9_drops 23 = .ok (.istore 6, 2) := by decide +kernel
theorem dX9_drops_25 : decode cX9_drops 25 = .ok (.aload_n 0, 1) := by decide +kernel
theorem dX9_drops_26 : decode cX9_drops 26 = .ok (.getfield 50, 3) := by decide +kernel
theorem dX9_drops_29 : decode cX9_drops 29 = .ok (.iload 5, 2) := by decide +kernel
theorem dX9_drops_31 : decode cX9_drops 31 = .ok (.iaload, 1) := by decide +kernel
theorem dX9_drops_32 : decode cX9_drops 32 = .ok (.iconst 2, 1) := by decide +kernel
theorem dX9_drops_33 : decode cX9_drops 33 = .ok (.if_icmp .ne 31, 3) := by decide +kernel
theorem dX9_drops_36 : decode cX9_drops 36 = .ok (.iload_n 3, 1) := by decide +kernel
theorem dX9_drops_37 : decode cX9_drops 37 = .ok (.iload 4, 2) := by decide +kernel
theorem dX9_drops_39 : decode cX9_drops 39 = .ok (.iload_n 1, 1) := by decide +kernel
theorem dX9_drops_40 : decode cX9_drops 40 = .ok (.if_icmp .gt 7, 3) := by decide +kernel
theorem dX9_drops_43 : decode cX9_drops 43 = .ok (.iload_n 1, 1) := by decide +kernel
theorem dX9_drops_44 : decode cX9_drops 44 = .ok (.ifCond .ne 14, 3) := by decide +kernel
theorem dX9_drops_47 : decode cX9_drops 47 = .ok (.iload 4, 2) := by decide +kernel
theorem dX9_drops_49 : decode cX9_drops 49 = .ok (.iload_n 2, 1) := by decide +kernel
theorem dX9_drops_50 : decode cX9_drops 50 = .ok (.if_icmp .gt 8, 3) := by decide +kernel
theorem dX9_drops_53 : decode cX9_drops 53 = .ok (.bipush 40, 2) := by decide +kernel
theorem dX9_drops_55 : decode cX9_drops 55 = .ok (.goto 4, 3) := by decide +kernel
theorem dX9_drops_58 : decode cX9_drops 58 = .ok (.iconst 0, 1) := by decide +kernel
theorem dX9_drops_59 : decode cX9_drops 59 = .ok (.iadd, 1) := by decide +kernel
theorem dX9_drops_60 : decode cX9_drops 60 = .ok (.istore_n 3, 1) := by decide +kernel
theorem dX9_drops_61 : decode cX9_drops 61 = .ok (.goto 59, 3) := by decide +kernel
theorem dX9_drops_64 : decode cX9_drops 64 = .ok (.iload 4, 2) := by decide +kernel
theorem dX9_drops_66 : decode cX9_drops 66 = .ok (.iload_n 1, 1) := by decide +kernel
theorem dX9_drops_67 : decode cX9_drops 67 = .ok (.if_icmp .le 8, 3) := by decide +kernel
theorem dX9_drops_70 : decode cX9_drops 70 = .ok (.iload 4, 2) := by decide +kernel
theorem dX9_drops_72 : decode cX9_drops 72 = .ok (.goto 4, 3) := by decide +kernel
theorem dX9_drops_75 : decode cX9_drops 75 = .ok (.iload_n 1, 1) := by decide +kernel
theorem dX9_drops_76 : decode cX9_drops 76 = .ok (.istore 7, 2) := by decide +kernel
theorem dX9_drops_78 : decode cX9_drops 78 = .ok (.iload 4, 2) := by decide +kernel
theorem dX9_drops_80 : decode cX9_drops 80 = .ok (.iload 6, 2) := by decide +kernel
theorem dX9_drops_82 : decode cX9_drops 82 = .ok (.iadd, 1) := by decide +kernel
theorem dX9_drops_83 : decode cX9_drops 83 = .ok (.iload_n 2, 1) := by decide +kernel
theorem dX9_drops_84 : decode cX9_drops 84 = .ok (.if_icmp .ge 11, 3) := by decide +kernel
theorem dX9_drops_87 : decode cX9_drops 87 = .ok (.iload 4, 2) := by decide +kernel
theorem dX9_drops_89 : decode cX9_drops 89 = .ok (.iload 6, 2) := by decide +kernel
theorem dX9_drops_91 : decode cX9_drops 91 = .ok (.iadd, 1) := by decide +kernel
theorem dX9_drops_92 : decode cX9_drops 92 = .ok (.goto 4, 3) := by decide +kernel
theorem dX9_drops_95 : decode cX9_drops 95 = .ok (.iload_n 2, 1) := by decide +kernel
theorem dX9_drops_96 : decode cX9_drops 96 = .ok (.istore 8, 2) := by decide +kernel
theorem dX9_drops_98 : decode cX9_drops 98 = .ok (.iload_n 3, 1) := by decide +kernel
theorem dX9_drops_99 : decode cX9_drops 99 = .ok (.iload 8, 2) := by decide +kernel
theorem dX9_drops_101 : decode cX9_drops 101 = .ok (.iload 7, 2) := by decide +kernel
theorem dX9_drops_103 : decode cX9_drops 103 = .ok (.if_icmp .le 14, 3) := by decide +kernel
theorem dX9_drops_106 : decode cX9_drops 106 = .ok (.iload 8, 2) := by decide +kernel
theorem dX9_drops_108 : decode cX9_drops 108 = .ok (.iload 7, 2) := by decide +kernel
theorem dX9_drops_110 : decode cX9_drops 110 = .ok (.isub, 1) := by decide +kernel
theorem dX9_drops_111 : decode cX9_drops 111 = .ok (.bipush 100, 2) := by decide +kernel
theorem dX9_drops_113 : decode cX9_drops 113 = .ok (.idiv, 1) := by decide +kernel
theorem dX9_drops_114 : decode cX9_drops 114 = .ok (.goto 4, 3) := by decide +kernel
theorem dX9_drops_117 : decode cX9_drops 117 = .ok (.iconst 0, 1) := by decide +kernel
theorem dX9_drops_118 : decode cX9_drops 118 = .ok (.iadd, 1) := by decide +kernel
theorem dX9_drops_119 : decode cX9_drops 119 = .ok (.istore_n 3, 1) := by decide +kernel
theorem dX9_drops_120 : decode cX9_drops 120 = .ok (.iload 4, 2) := by decide +kernel
theorem dX9_drops_122 : decode cX9_drops 122 = .ok (.iload 6, 2) := by decide +kernel
theorem dX9_drops_124 : decode cX9_drops 124 = .ok (.iadd, 1) := by decide +kernel
theorem dX9_drops_125 : decode cX9_drops 125 = .ok (.istore 4, 2) := by decide +kernel
theorem dX9_drops_127 : decode cX9_drops 127 = .ok (.iinc 5 1, 3) := by decide +kernel
theorem dX9_drops_130 : decode cX9_drops 130 = .ok (.goto (-122), 3) := by decide +kernel
theorem dX9_drops_133 : decode cX9_drops 133 = .ok (.iload_n 3, 1) := by decide +kernel
theorem dX9_drops_134 : decode cX9_drops 134 = .ok (.ireturn, 1) := by decide +kernel
theorem dX9_feeds_0 : decode cX9_feeds 0 = .ok (.aload_n 0, 1) := by decide +kernel
theorem dX9_feeds_1 : decode cX9_feeds 1 = .ok (.invokevirtual 160, 3) := by decide +kernel
theorem dX9_feeds_4 : decode cX9_feeds 4 = .ok (.istore_n 1, 1) := by decide +kernel
theorem dX9_feeds_5 : decode cX9_feeds 5 = .ok (.iconst (-1), 1) := by decide +kernel
theorem dX9_feeds_6 : decode cX9_feeds 6 = .ok (.istore_n 2, 1) := by decide +kernel
theorem dX9_feeds_7 : decode cX9_feeds 7 = .ok (.iconst (-1), 1) := by decide +kernel
theorem dX9_feeds_8 : decode cX9_feeds 8 = .ok (.istore_n 3, 1) := by decide +kernel
theorem dX9_feeds_9 : decode cX9_feeds 9 = .ok (.iconst 0, 1) := by decide +kernel
theorem dX9_feeds_10 : decode cX9_feeds 10 = .ok (.istore 4, 2) := by decide +kernel
theorem dX9_feeds_12 : decode cX9_feeds 12 = .ok (.iload 4, 2) := by decide +kernel
theorem dX9_feeds_14 : decode cX9_feeds 14 = .ok (.aload_n 0, 1) := by decide +kernel
theorem dX9_feeds_15 : decode cX9_feeds 15 = .ok (.getfield 177, 3) := by decide +kernel
theorem dX9_feeds_18 : decode cX9_feeds 18 = .ok (.if_icmp .ge 70, 3) := by decide +kernel
theorem dX9_feeds_21 : decode cX9_feeds 21 = .ok (.aload_n 0, 1) := by decide +kernel
theorem dX9_feeds_22 : decode cX9_feeds 22 = .ok (.getfield 77, 3) := by decide +kernel
theorem dX9_feeds_25 : decode cX9_feeds 25 = .ok (.iload 4, 2) := by decide +kernel
theorem dX9_feeds_27 : decode cX9_feeds 27 = .ok (.iaload, 1) := by decide +kernel
theorem dX9_feeds_28 : decode cX9_feeds 28 = .ok (.ifCond .ne 54, 3) := by decide +kernel
theorem dX9_feeds_31 : decode cX9_feeds 31 = .ok (.iload_n 2, 1) := by decide +kernel
theorem dX9_feeds_32 : decode cX9_feeds 32 = .ok (.iconst (-1), 1) := by decide +kernel
theorem dX9_feeds_33 : decode cX9_feeds 33 = .ok (.if_icmp .eq 14, 3) := by decide +kernel
theorem dX9_feeds_36 : decode cX9_feeds 36 = .ok (.aload_n 0, 1) := by decide +kernel
theorem dX9_feeds_37 : decode cX9_feeds 37 = .ok (.getfield 80, 3) := by decide +kernel
theorem dX9_feeds_40 : decode cX9_feeds 40 = .ok (.iload 4, 2) := by decide +kernel
theorem dX9_feeds_42 : decode cX9_feeds 42 = .ok (.iaload, 1) := by decide +kernel
theorem dX9_feeds_43 : decode cX9_feeds 43 = .ok (.iload_n 2, 1) := by decide +kernel
theorem dX9_feeds_44 : decode cX9_feeds 44 = .ok (.if_icmp .ge 13, 3) := by decide +kernel
theorem dX9_feeds_47 : decode cX9_feeds 47 = .ok (.aload_n 0, 1) := by decide +kernel
theorem dX9_feeds_48 : decode cX9_feeds 48 = .ok (.getfield 80, 3) := by decide +kernel
theorem dX9_feeds_51 : decode cX9_feeds 51 = .ok (.iload 4, 2) := by decide +kernel
theorem dX9_feeds_53 : decode cX9_feeds 53 = .ok (.iaload, 1) := by decide +kernel
theorem dX9_feeds_54 : decode cX9_feeds 54 = .ok (.goto 4, 3) := by decide +kernel
theorem dX9_feeds_57 : decode cX9_feeds 57 = .ok (.iload_n 2, 1) := by decide +kernel
theorem dX9_feeds_58 : decode cX9_feeds 58 = .ok (.istore_n 2, 1) := by decide +kernel
theorem dX9_feeds_59 : decode cX9_feeds 59 = .ok (.aload_n 0, 1) := by decide +kernel
theorem dX9_feeds_60 : decode cX9_feeds 60 = .ok (.getfield 80, 3) := by decide +kernel
theorem dX9_feeds_63 : decode cX9_feeds 63 = .ok (.iload 4, 2) := by decide +kernel
theorem dX9_feeds_65 : decode cX9_feeds 65 = .ok (.iaload, 1) := by decide +kernel
theorem dX9_feeds_66 : decode cX9_feeds 66 = .ok (.iload_n 3, 1) := by decide +kernel
theorem dX9_feeds_67 : decode cX9_feeds 67 = .ok (.if_icmp .le 13, 3) := by decide +kernel
theorem dX9_feeds_70 : decode cX9_feeds 70 = .ok (.aload_n 0, 1) := by decide +kernel
theorem dX9_feeds_71 : decode cX9_feeds 71 = .ok (.getfield 80, 3) := by decide +kernel
theorem dX9_feeds_74 : decode cX9_feeds 74 = .ok (.iload 4, 2) := by decide +kernel
theorem dX9_feeds_76 : decode cX9_feeds 76 = .ok (.iaload, 1) := by decide +kernel
theorem dX9_feeds_77 : decode cX9_feeds 77 = .ok (.goto 4, 3) := by decide +kernel
theorem dX9_feeds_80 : decode cX9_feeds 80 = .ok (.iload_n 3, 1) := by decide +kernel
theorem dX9_feeds_81 : decode cX9_feeds 81 = .ok (.istore_n 3, 1) := by decide +kernel
theorem dX9_feeds_82 : decode cX9_feeds 82 = .ok (.iinc 4 1, 3) := by decide +kernel
theorem dX9_feeds_85 : decode cX9_feeds 85 = .ok (.goto (-73), 3) := by decide +kernel
theorem dX9_feeds_88 : decode cX9_feeds 88 = .ok (.iload_n 2, 1) := by decide +kernel
theorem dX9_feeds_89 : decode cX9_feeds 89 = .ok (.iconst (-1), 1) := by decide +kernel
theorem dX9_feeds_90 : decode cX9_feeds 90 = .ok (.if_icmp .ne 34, 3) := by decide +kernel
theorem dX9_feeds_93 : decode cX9_feeds 93 = .ok (.aload_n 0, 1) := by decide +kernel
theorem dX9_feeds_94 : decode cX9_feeds 94 = .ok (.invokevirtual 149, 3) := by decide +kernel
theorem dX9_feeds_97 : decode cX9_feeds 97 = .ok (.ifCond .eq 25, 3) := by decide +kernel
theorem dX9_feeds_100 : decode cX9_feeds 100 = .ok (.aload_n 0, 1) := by decide +kernel
theorem dX9_feeds_101 : decode cX9_feeds 101 = .ok (.iconst 0, 1) := by decide +kernel
theorem dX9_feeds_102 : decode cX9_feeds 102 = .ok (.iload_n 1, 1) := by decide +kernel
theorem dX9_feeds_103 : decode cX9_feeds 103 = .ok (.invokevirtual 244, 3) := by decide +kernel
theorem dX9_feeds_106 : decode cX9_feeds 106 = .ok (.aload_n 0, 1) := by decide +kernel
theorem dX9_feeds_107 : decode cX9_feeds 107 = .ok (.getfield 238, 3) := by decide +kernel
theorem dX9_feeds_110 : decode cX9_feeds 110 = .ok (.aload_n 0, 1) := by decide +kernel
theorem dX9_feeds_111 : decode cX9_feeds 111 = .ok (.getfield 241, 3) := by decide +kernel
theorem dX9_feeds_114 : decode cX9_feeds 114 = .ok (.iadd, 1) := by decide +kernel
theorem dX9_feeds_115 : decode cX9_feeds 115 = .ok (.if_icmp .gt 7, 3) := by decide +kernel
theorem dX9_feeds_118 : decode cX9_feeds 118 = .ok (.iconst 1, 1) := by decide +kernel
theorem dX9_feeds_119 : decode cX9_feeds 119 = .ok (.goto 4, 3) := by decide +kernel
theorem dX9_feeds_122 : decode cX9_feeds 122 = .ok (.iconst 0, 1) := by decide +kernel
theorem dX9_feeds_123 : decode cX9_feeds 123 = .ok (.ireturn, 1) := by decide +kernel
theorem dX9_feeds_124 : decode cX9_feeds 124 = .ok (.aload_n 0, 1) := by decide +kernel
theorem dX9_feeds_125 : decode cX9_feeds 125 = .ok (.invokevirtual 149, 3) := by decide +kernel
theorem dX9_feeds_128 : decode cX9_feeds 128 = .ok (.ifCond .eq 33, 3) := by decide +kernel
theorem dX9_feeds_131 : decode cX9_feeds 131 = .ok (.aload_n 0, 1) := by decide +kernel
theorem dX9_feeds_132 : decode cX9_feeds 132 = .ok (.iconst 0, 1) := by decide +kernel
theorem dX9_feeds_133 : decode cX9_feeds 133 = .ok (.iload_n 2, 1) := by decide +kernel
theorem dX9_feeds_134 : decode cX9_feeds 134 = .ok (.invokevirtual 244, 3) := by decide +kernel
theorem dX9_feeds_137 : decode cX9_feeds 137 = .ok (.aload_n 0, 1) := by decide +kernel
theorem dX9_feeds_138 : decode cX9_feeds 138 = .ok (.getfield 238, 3) := by decide +kernel
theorem dX9_feeds_141 : decode cX9_feeds 141 = .ok (.if_icmp .gt 20, 3) := by decide +kernel
theorem dX9_feeds_144 : decode cX9_feeds 144 = .ok (.aload_n 0, 1) := by decide +kernel
theorem dX9_feeds_145 : decode cX9_feeds 145 = .ok (.iload_n 3, 1) := by decide +kernel
theorem dX9_feeds_146 : decode cX9_feeds 146 = .ok (.iload_n 1, 1) := by decide +kernel
theorem dX9_feeds_147 : decode cX9_feeds 147 = .ok (.invokevirtual 247, 3) := by decide +kernel
theorem dX9_feeds_150 : decode cX9_feeds 150 = .ok (.aload_n 0, 1) := by decide +kernel
theorem dX9_feeds_151 : decode cX9_feeds 151 = .ok (.getfield 241, 3) := by decide +kernel
theorem dX9_feeds_154 : decode cX9_feeds 154 = .ok (.if_icmp .gt 7, 3) := by decide +kernel
theorem dX9_feeds_157 : decode cX9_feeds 157 = .ok (.iconst 1, 1) := by decide +kernel
theorem dX9_feeds_158 : decode cX9_feeds 158 = .ok (.goto 4, 3) := by decide +kernel
theorem dX9_feeds_161 : decode cX9_feeds 161 = .ok (.iconst 0, 1) := by decide +kernel
theorem dX9_feeds_162 : decode cX9_feeds 162 = .ok (.ireturn, 1) := by decide +kernel
theorem dX9_dropsBehind_0 : decode cX9_dropsBehind 0 = .ok (.aload_n 0, 1) := by decide +kernel
theorem dX9_dropsBehind_1 : decode cX9_dropsBehind 1 = .ok (.iload_n 1, 1) := by decide +kernel
theorem dX9_dropsBehind_2 : decode cX9_dropsBehind 2 = .ok (.iload_n 2, 1) := by decide +kernel
theorem dX9_dropsBehind_3 : decode cX9_dropsBehind 3 = .ok (.invokevirtual 244, 3) := by decide +kernel
theorem dX9_dropsBehind_6 : decode cX9_dropsBehind 6 = .ok (.istore_n 3, 1) := by decide +kernel
theorem dX9_dropsBehind_7 : decode cX9_dropsBehind 7 = .ok (.iload_n 1, 1) := by decide +kernel
theorem dX9_dropsBehind_8 : decode cX9_dropsBehind 8 = .ok (.ifCond .ne 14, 3) := by decide +kernel
theorem dX9_dropsBehind_11 : decode cX9_dropsBehind 11 = .ok (.iload_n 3, 1) := by decide +kernel
theorem dX9_dropsBehind_12 : decode cX9_dropsBehind 12 = .ok (.aload_n 0, 1) := by decide +kernel
theorem dX9_dropsBehind_13 : decode cX9_dropsBehind 13 = .ok (.iconst 0, 1) := by decide +kernel
theorem dX9_dropsBehind_14 : decode cX9_dropsBehind 14 = .ok (.invokevirtual 250, 3) := by decide +kernel
theorem dX9_dropsBehind_17 : decode cX9_dropsBehind 17 = .ok (.bipush 40, 2) := by decide +kernel
theorem dX9_dropsBehind_19 : decode cX9_dropsBehind 19 = .ok (.imul, 1) := by decide +kernel
theorem dX9_dropsBehind_20 : decode cX9_dropsBehind 20 = .ok (.isub, 1) := by decide +kernel
theorem dX9_dropsBehind_21 : decode cX9_dropsBehind 21 = .ok (.istore_n 3, 1) := by decide +kernel
theorem dX9_dropsBehind_22 : decode cX9_dropsBehind 22 = .ok (.iload_n 3, 1) := by decide +kernel
theorem dX9_dropsBehind_23 : decode cX9_dropsBehind 23 = .ok (.ireturn, 1) := by decide +kernel
theorem dX9_repeatersUpTo_0 : decode cX9_repeatersUpTo 0 = .ok (.iconst 0, 1) := by decide +kernel
theorem dX9_repeatersUpTo_1 : decode cX9_repeatersUpTo 1 = .ok (.istore_n 2, 1) := by decide +kernel
theorem dX9_repeatersUpTo_2 : decode cX9_repeatersUpTo 2 = .ok (.iconst 0, 1) := by decide +kernel
theorem dX9_repeatersUpTo_3 : decode cX9_repeatersUpTo 3 = .ok (.istore_n 3, 1) := by decide +kernel
theorem dX9_repeatersUpTo_4 : decode cX9_repeatersUpTo 4 = .ok (.iconst 0, 1) := by decide +kernel
theorem dX9_repeatersUpTo_5 : decode cX9_repeatersUpTo 5 = .ok (.istore 4, 2) := by decide +kernel
theorem dX9_repeatersUpTo_7 : decode cX9_repeatersUpTo 7 = .ok (.iload 4, 2) := by decide +kernel
theorem dX9_repeatersUpTo_9 : decode cX9_repeatersUpTo 9 = .ok (.aload_n 0, 1) := by decide +kernel
theorem dX9_repeatersUpTo_10 : decode cX9_repeatersUpTo 10 = .ok (.getfield 171, 3) := by decide +kernel
theorem dX9_repeatersUpTo_13 : decode cX9_repeatersUpTo 13 = .ok (.if_icmp .ge 42, 3) := by decide +kernel
theorem dX9_repeatersUpTo_16 : decode cX9_repeatersUpTo 16 = .ok (.iload_n 2, 1) := by decide +kernel
theorem dX9_repeatersUpTo_17 : decode cX9_repeatersUpTo 17 = .ok (.aload_n 0, 1) := by decide +kernel
theorem dX9_repeatersUpTo_18 : decode cX9_repeatersUpTo 18 = .ok (.getfield 50, 3) := by decide +kernel
theorem dX9_repeatersUpTo_21 : decode cX9_repeatersUpTo 21 = .ok (.iload 4, 2) := by decide +kernel
theorem dX9_repeatersUpTo_23 : decode cX9_repeatersUpTo 23 = .ok (.iaload, 1) := by decide +kernel
theorem dX9_repeatersUpTo_24 : decode cX9_repeatersUpTo 24 = .ok (.iconst 2, 1) := by decide +kernel
theorem dX9_repeatersUpTo_25 : decode cX9_repeatersUpTo 25 = .ok (.if_icmp .ne 12, 3) := by decide +kernel
theorem dX9_repeatersUpTo_28 : decode cX9_repeatersUpTo 28 = .ok (.iload_n 3, 1) := by decide +kernel
theorem dX9_repeatersUpTo_29 : decode cX9_repeatersUpTo 29 = .ok (.iload_n 1, 1) := by decide +kernel
theorem dX9_repeatersUpTo_30 : decode cX9_repeatersUpTo 30 = .ok (.if_icmp .gt 7, 3) := by decide +kernel
theorem dX9_repeatersUpTo_33 : decode cX9_repeatersUpTo 33 = .ok (.iconst 1, 1) := by decide +kernel
theorem dX9_repeatersUpTo_34 : decode cX9_repeatersUpTo 34 = .ok (.goto 4, 3) := by decide +kernel
theorem dX9_repeatersUpTo_37 : decode cX9_repeatersUpTo 37 = .ok (.iconst 0, 1) := by decide +kernel
theorem dX9_repeatersUpTo_38 : decode cX9_repeatersUpTo 38 = .ok (.iadd, 1) := by decide +kernel
theorem dX9_repeatersUpTo_39 : decode cX9_repeatersUpTo 39 = .ok (.istore_n 2, 1) := by decide +kernel
theorem dX9_repeatersUpTo_40 : decode cX9_repeatersUpTo 40 = .ok (.iload_n 3, 1) := by decide +kernel
theorem dX9_repeatersUpTo_41 : decode cX9_repeatersUpTo 41 = .ok (.aload_n 0, 1) := by decide +kernel
theorem dX9_repeatersUpTo_42 : decode cX9_repeatersUpTo 42 = .ok (.iload 4, 2) := by decide +kernel
theorem dX9_repeatersUpTo_44 : decode cX9_repeatersUpTo 44 = .ok (.invokevirtual 174, 3) := by decide +kernel
theorem dX9_repeatersUpTo_47 : decode cX9_repeatersUpTo 47 = .ok (.iadd, 1) := by decide +kernel
theorem dX9_repeatersUpTo_48 : decode cX9_repeatersUpTo 48 = .ok (.istore_n 3, 1) := by decide +kernel
theorem dX9_repeatersUpTo_49 : decode cX9_repeatersUpTo 49 = .ok (.iinc 4 1, 3) := by decide +kernel
theorem dX9_repeatersUpTo_52 : decode cX9_repeatersUpTo 52 = .ok (.goto (-45), 3) := by decide +kernel
theorem dX9_repeatersUpTo_55 : decode cX9_repeatersUpTo 55 = .ok (.iload_n 2, 1) := by decide +kernel
theorem dX9_repeatersUpTo_56 : decode cX9_repeatersUpTo 56 = .ok (.ireturn, 1) := by decide +kernel
theorem dX9_worksNow_0 : decode cX9_worksNow 0 = .ok (.iconst 0, 1) := by decide +kernel
theorem dX9_worksNow_1 : decode cX9_worksNow 1 = .ok (.istore_n 1, 1) := by decide +kernel
theorem dX9_worksNow_2 : decode cX9_worksNow 2 = .ok (.iconst 0, 1) := by decide +kernel
theorem dX9_worksNow_3 : decode cX9_worksNow 3 = .ok (.istore_n 2, 1) := by decide +kernel
theorem dX9_worksNow_4 : decode cX9_worksNow 4 = .ok (.iload_n 2, 1) := by decide +kernel
theorem dX9_worksNow_5 : decode cX9_worksNow 5 = .ok (.aload_n 0, 1) := by decide +kernel
theorem dX9_worksNow_6 : decode cX9_worksNow 6 = .ok (.getfield 177, 3) := by decide +kernel
theorem dX9_worksNow_9 : decode cX9_worksNow 9 = .ok (.if_icmp .ge 29, 3) := by decide +kernel
theorem dX9_worksNow_12 : decode cX9_worksNow 12 = .ok (.iload_n 1, 1) := by decide +kernel
theorem dX9_worksNow_13 : decode cX9_worksNow 13 = .ok (.ifCond .ne 13, 3) := by decide +kernel
theorem dX9_worksNow_16 : decode cX9_worksNow 16 = .ok (.aload_n 0, 1) := by decide +kernel
theorem dX9_worksNow_17 : decode cX9_worksNow 17 = .ok (.getfield 77, 3) := by decide +kernel
theorem dX9_worksNow_20 : decode cX9_worksNow 20 = .ok (.iload_n 2, 1) := by decide +kernel
theorem dX9_worksNow_21 : decode cX9_worksNow 21 = .ok (.iaload, 1) := by decide +kernel
theorem dX9_worksNow_22 : decode cX9_worksNow 22 = .ok (.iconst 1, 1) := by decide +kernel
theorem dX9_worksNow_23 : decode cX9_worksNow 23 = .ok (.if_icmp .ne 7, 3) := by decide +kernel
theorem dX9_worksNow_26 : decode cX9_worksNow 26 = .ok (.iconst 1, 1) := by decide +kernel
theorem dX9_worksNow_27 : decode cX9_worksNow 27 = .ok (.goto 4, 3) := by decide +kernel
theorem dX9_worksNow_30 : decode cX9_worksNow 30 = .ok (.iconst 0, 1) := by decide +kernel
theorem dX9_worksNow_31 : decode cX9_worksNow 31 = .ok (.istore_n 1, 1) := by decide +kernel
theorem dX9_worksNow_32 : decode cX9_worksNow 32 = .ok (.iinc 2 1, 3) := by decide +kernel
theorem dX9_worksNow_35 : decode cX9_worksNow 35 = .ok (.goto (-31), 3) := by decide +kernel
theorem dX9_worksNow_38 : decode cX9_worksNow 38 = .ok (.aload_n 0, 1) := by decide +kernel
theorem dX9_worksNow_39 : decode cX9_worksNow 39 = .ok (.invokevirtual 149, 3) := by decide +kernel
theorem dX9_worksNow_42 : decode cX9_worksNow 42 = .ok (.ifCond .eq 25, 3) := by decide +kernel
theorem dX9_worksNow_45 : decode cX9_worksNow 45 = .ok (.iload_n 1, 1) := by decide +kernel
theorem dX9_worksNow_46 : decode cX9_worksNow 46 = .ok (.ifCond .ne 21, 3) := by decide +kernel
theorem dX9_worksNow_49 : decode cX9_worksNow 49 = .ok (.aload_n 0, 1) := by decide +kernel
theorem dX9_worksNow_50 : decode cX9_worksNow 50 = .ok (.invokevirtual 253, 3) := by decide +kernel
theorem dX9_worksNow_53 : decode cX9_worksNow 53 = .ok (.ifCond .eq 14, 3) := by decide +kernel
theorem dX9_worksNow_56 : decode cX9_worksNow 56 = .ok (.aload_n 0, 1) := by decide +kernel
theorem dX9_worksNow_57 : decode cX9_worksNow 57 = .ok (.invokevirtual 256, 3) := by decide +kernel
theorem dX9_worksNow_60 : decode cX9_worksNow 60 = .ok (.ifCond .lt 7, 3) := by decide +kernel
theorem dX9_worksNow_63 : decode cX9_worksNow 63 = .ok (.iconst 1, 1) := by decide +kernel
theorem dX9_worksNow_64 : decode cX9_worksNow 64 = .ok (.goto 4, 3) := by decide +kernel
theorem dX9_worksNow_67 : decode cX9_worksNow 67 = .ok (.iconst 0, 1) := by decide +kernel
theorem dX9_worksNow_68 : decode cX9_worksNow 68 = .ok (.ireturn, 1) := by decide +kernel
theorem dX9_margin_0 : decode cX9_margin 0 = .ok (.aload_n 0, 1) := by decide +kernel
theorem dX9_margin_1 : decode cX9_margin 1 = .ok (.iconst 0, 1) := by decide +kernel
theorem dX9_margin_2 : decode cX9_margin 2 = .ok (.putfield 120, 3) := by decide +kernel
theorem dX9_margin_5 : decode cX9_margin 5 = .ok (.aload_n 0, 1) := by decide +kernel
theorem dX9_margin_6 : decode cX9_margin 6 = .ok (.invokevirtual 256, 3) := by decide +kernel
theorem dX9_margin_9 : decode cX9_margin 9 = .ok (.ireturn, 1) := by decide +kernel
theorem dX9_earth_0 : decode cX9_earth 0 = .ok (.aload_n 0, 1) := by decide +kernel
theorem dX9_earth_1 : decode cX9_earth 1 = .ok (.iconst 0, 1) := by decide +kernel
theorem dX9_earth_2 : decode cX9_earth 2 = .ok (.putfield 120, 3) := by decide +kernel
theorem dX9_earth_5 : decode cX9_earth 5 = .ok (.iconst 0, 1) := by decide +kernel
theorem dX9_earth_6 : decode cX9_earth 6 = .ok (.istore_n 1, 1) := by decide +kernel
theorem dX9_earth_7 : decode cX9_earth 7 = .ok (.iconst 0, 1) := by decide +kernel
theorem dX9_earth_8 : decode cX9_earth 8 = .ok (.istore_n 2, 1) := by decide +kernel
theorem dX9_earth_9 : decode cX9_earth 9 = .ok (.iconst 0, 1) := by decide +kernel
theorem dX9_earth_10 : decode cX9_earth 10 = .ok (.istore_n 3, 1) := by decide +kernel
theorem dX9_earth_11 : decode cX9_earth 11 = .ok (.iload_n 3, 1) := by decide +kernel
theorem dX9_earth_12 : decode cX9_earth 12 = .ok (.aload_n 0, 1) := by decide +kernel
theorem dX9_earth_13 : decode cX9_earth 13 = .ok (.getfield 171, 3) := by decide +kernel
theorem dX9_earth_16 : decode cX9_earth 16 = .ok (.if_icmp .ge 104, 3) := by decide +kernel
theorem dX9_earth_19 : decode cX9_earth 19 = .ok (.aload_n 0, 1) := by decide +kernel
theorem dX9_earth_20 : decode cX9_earth 20 = .ok (.iload_n 3, 1) := by decide +kernel
theorem dX9_earth_21 : decode cX9_earth 21 = .ok (.invokevirtual 174, 3) := by decide +kernel
theorem dX9_earth_24 : decode cX9_earth 24 = .ok (.istore 4, 2) := by decide +kernel
theorem dX9_earth_26 : decode cX9_earth 26 = .ok (.aload_n 0, 1) := by decide +kernel
theorem dX9_earth_27 : decode cX9_earth 27 = .ok (.getfield 50, 3) := by decide +kernel
theorem dX9_earth_30 : decode cX9_earth 30 = .ok (.iload_n 3, 1) := by decide +kernel
theorem dX9_earth_31 : decode cX9_earth 31 = .ok (.iaload, 1) := by decide +kernel
theorem dX9_earth_32 : decode cX9_earth 32 = .ok (.iconst 2, 1) := by decide +kernel
theorem dX9_earth_33 : decode cX9_earth 33 = .ok (.if_icmp .ne 8, 3) := by decide +kernel
theorem dX9_earth_36 : decode cX9_earth 36 = .ok (.bipush 40, 2) := by decide +kernel
theorem dX9_earth_38 : decode cX9_earth 38 = .ok (.goto 8, 3) := by decide +kernel
theorem dX9_earth_41 : decode cX9_earth 41 = .ok (.iload 4, 2) := by decide +kernel
theorem dX9_earth_43 : decode cX9_earth 43 = .ok (.bipush 100, 2) := by decide +kernel
theorem dX9_earth_45 : decode cX9_earth 45 = .ok (.idiv, 1) := by decide +kernel
theorem dX9_earth_46 : decode cX9_earth 46 = .ok (.istore 5, 2) := by decide +kernel
theorem dX9_earth_48 : decode cX9_earth 48 = .ok (.iload_n 2, 1) := by decide +kernel
theorem dX9_earth_49 : decode cX9_earth 49 = .ok (.iload 5, 2) := by decide +kernel
theorem dX9_earth_51 : decode cX9_earth 51 = .ok (.iadd, 1) := by decide +kernel
theorem dX9_earth_52 : decode cX9_earth 52 = .ok (.aload_n 0, 1) := by decide +kernel
theorem dX9_earth_53 : decode cX9_earth 53 = .ok (.getfield 238, 3) := by decide +kernel
theorem dX9_earth_56 : decode cX9_earth 56 = .ok (.if_icmp .le 48, 3) := by decide +kernel
theorem dX9_earth_59 : decode cX9_earth 59 = .ok (.bipush 100, 2) := by decide +kernel
theorem dX9_earth_61 : decode cX9_earth 61 = .ok (.aload_n 0, 1) := by decide +kernel
theorem dX9_earth_62 : decode cX9_earth 62 = .ok (.getfield 238, 3) := by decide +kernel
theorem dX9_earth_65 : decode cX9_earth 65 = .ok (.iload_n 2, 1) := by decide +kernel
theorem dX9_earth_66 : decode cX9_earth 66 = .ok (.isub, 1) := by decide +kernel
theorem dX9_earth_67 : decode cX9_earth 67 = .ok (.imul, 1) := by decide +kernel
theorem dX9_earth_68 : decode cX9_earth 68 = .ok (.bipush 99, 2) := by decide +kernel
theorem dX9_earth_70 : decode cX9_earth 70 = .ok (.iadd, 1) := by decide +kernel
theorem dX9_earth_71 : decode cX9_earth 71 = .ok (.istore 6, 2) := by decide +kernel
theorem dX9_earth_73 : decode cX9_earth 73 = .ok (.aload_n 0, 1) := by decide +kernel
theorem dX9_earth_74 : decode cX9_earth 74 = .ok (.getfield 50, 3) := by decide +kernel
theorem dX9_earth_77 : decode cX9_earth 77 = .ok (.iload_n 3, 1) := by decide +kernel
theorem dX9_earth_78 : decode cX9_earth 78 = .ok (.iaload, 1) := by decide +kernel
theorem dX9_earth_79 : decode cX9_earth 79 = .ok (.iconst 2, 1) := by decide +kernel
theorem dX9_earth_80 : decode cX9_earth 80 = .ok (.if_icmp .ne 7, 3) := by decide +kernel
theorem dX9_earth_83 : decode cX9_earth 83 = .ok (.iload_n 1, 1) := by decide +kernel
theorem dX9_earth_84 : decode cX9_earth 84 = .ok (.goto 19, 3) := by decide +kernel
theorem dX9_earth_87 : decode cX9_earth 87 = .ok (.iload_n 1, 1) := by decide +kernel
theorem dX9_earth_88 : decode cX9_earth 88 = .ok (.iload 6, 2) := by decide +kernel
theorem dX9_earth_90 : decode cX9_earth 90 = .ok (.iload 4, 2) := by decide +kernel
theorem dX9_earth_92 : decode cX9_earth 92 = .ok (.if_icmp .ge 8, 3) := by decide +kernel
theorem dX9_earth_95 : decode cX9_earth 95 = .ok (.iload 6, 2) := by decide +kernel
theorem dX9_earth_97 : decode cX9_earth 97 = .ok (.goto 5, 3) := by decide +kernel
theorem dX9_earth_100 : decode cX9_earth 100 = .ok (.iload 4, 2) := by decide +kernel
theorem dX9_earth_102 : decode cX9_earth 102 = .ok (.iadd, 1) := by decide +kernel
theorem dX9_earth_103 : decode cX9_earth 103 = .ok (.ireturn, 1) := by decide +kernel
theorem dX9_earth_104 : decode cX9_earth 104 = .ok (.iload_n 2, 1) := by decide +kernel
theorem dX9_earth_105 : decode cX9_earth 105 = .ok (.iload 5, 2) := by decide +kernel
theorem dX9_earth_107 : decode cX9_earth 107 = .ok (.iadd, 1) := by decide +kernel
theorem dX9_earth_108 : decode cX9_earth 108 = .ok (.istore_n 2, 1) := by decide +kernel
theorem dX9_earth_109 : decode cX9_earth 109 = .ok (.iload_n 1, 1) := by decide +kernel
theorem dX9_earth_110 : decode cX9_earth 110 = .ok (.iload 4, 2) := by decide +kernel
theorem dX9_earth_112 : decode cX9_earth 112 = .ok (.iadd, 1) := by decide +kernel
theorem dX9_earth_113 : decode cX9_earth 113 = .ok (.istore_n 1, 1) := by decide +kernel
theorem dX9_earth_114 : decode cX9_earth 114 = .ok (.iinc 3 1, 3) := by decide +kernel
theorem dX9_earth_117 : decode cX9_earth 117 = .ok (.goto (-106), 3) := by decide +kernel
theorem dX9_earth_120 : decode cX9_earth 120 = .ok (.iload_n 1, 1) := by decide +kernel
theorem dX9_earth_121 : decode cX9_earth 121 = .ok (.ireturn, 1) := by decide +kernel
theorem dX9_isFed_0 : decode cX9_isFed 0 = .ok (.aload_n 0, 1) := by decide +kernel
theorem dX9_isFed_1 : decode cX9_isFed 1 = .ok (.iconst 0, 1) := by decide +kernel
theorem dX9_isFed_2 : decode cX9_isFed 2 = .ok (.putfield 120, 3) := by decide +kernel
theorem dX9_isFed_5 : decode cX9_isFed 5 = .ok (.aload_n 0, 1) := by decide +kernel
theorem dX9_isFed_6 : decode cX9_isFed 6 = .ok (.invokevirtual 253, 3) := by decide +kernel
theorem dX9_isFed_9 : decode cX9_isFed 9 = .ok (.ireturn, 1) := by decide +kernel
theorem dX9_works_0 : decode cX9_works 0 = .ok (.aload_n 0, 1) := by decide +kernel
theorem dX9_works_1 : decode cX9_works 1 = .ok (.iconst 0, 1) := by decide +kernel
theorem dX9_works_2 : decode cX9_works 2 = .ok (.putfield 120, 3) := by decide +kernel
theorem dX9_works_5 : decode cX9_works 5 = .ok (.aload_n 0, 1) := by decide +kernel
theorem dX9_works_6 : decode cX9_works 6 = .ok (.invokevirtual 259, 3) := by decide +kernel
theorem dX9_works_9 : decode cX9_works 9 = .ok (.ireturn, 1) := by decide +kernel
theorem dX9_comes_0 : decode cX9_comes 0 = .ok (.aload_n 0, 1) := by decide +kernel
theorem dX9_comes_1 : decode cX9_comes 1 = .ok (.getfield 77, 3) := by decide +kernel
theorem dX9_comes_4 : decode cX9_comes 4 = .ok (.aload_n 0, 1) := by decide +kernel
theorem dX9_comes_5 : decode cX9_comes 5 = .ok (.getfield 177, 3) := by decide +kernel
theorem dX9_comes_8 : decode cX9_comes 8 = .ok (.iload_n 1, 1) := by decide +kernel
theorem dX9_comes_9 : decode cX9_comes 9 = .ok (.iastore, 1) := by decide +kernel
theorem dX9_comes_10 : decode cX9_comes 10 = .ok (.aload_n 0, 1) := by decide +kernel
theorem dX9_comes_11 : decode cX9_comes 11 = .ok (.getfield 80, 3) := by decide +kernel
theorem dX9_comes_14 : decode cX9_comes 14 = .ok (.aload_n 0, 1) := by decide +kernel
theorem dX9_comes_15 : decode cX9_comes 15 = .ok (.getfield 177, 3) := by decide +kernel
theorem dX9_comes_18 : decode cX9_comes 18 = .ok (.iload_n 2, 1) := by decide +kernel
theorem dX9_comes_19 : decode cX9_comes 19 = .ok (.iastore, 1) := by decide +kernel
theorem dX9_comes_20 : decode cX9_comes 20 = .ok (.aload_n 0, 1) := by decide +kernel
theorem dX9_comes_21 : decode cX9_comes 21 = .ok (.getfield 83, 3) := by decide +kernel
theorem dX9_comes_24 : decode cX9_comes 24 = .ok (.aload_n 0, 1) := by decide +kernel
theorem dX9_comes_25 : decode cX9_comes 25 = .ok (.getfield 177, 3) := by decide +kernel
theorem dX9_comes_28 : decode cX9_comes 28 = .ok (.iconst 0, 1) := by decide +kernel
theorem dX9_comes_29 : decode cX9_comes 29 = .ok (.iastore, 1) := by decide +kernel
theorem dX9_comes_30 : decode cX9_comes 30 = .ok (.aload_n 0, 1) := by decide +kernel
theorem dX9_comes_31 : decode cX9_comes 31 = .ok (.getfield 86, 3) := by decide +kernel
theorem dX9_comes_34 : decode cX9_comes 34 = .ok (.aload_n 0, 1) := by decide +kernel
theorem dX9_comes_35 : decode cX9_comes 35 = .ok (.getfield 177, 3) := by decide +kernel
theorem dX9_comes_38 : decode cX9_comes 38 = .ok (.aload_n 0, 1) := by decide +kernel
theorem dX9_comes_39 : decode cX9_comes 39 = .ok (.invokevirtual 160, 3) := by decide +kernel
theorem dX9_comes_42 : decode cX9_comes 42 = .ok (.iastore, 1) := by decide +kernel
theorem dX9_comes_43 : decode cX9_comes 43 = .ok (.aload_n 0, 1) := by decide +kernel
theorem dX9_comes_44 : decode cX9_comes 44 = .ok (.dup, 1) := by decide +kernel
theorem dX9_comes_45 : decode cX9_comes 45 = .ok (.getfield 177, 3) := by decide +kernel
theorem dX9_comes_48 : decode cX9_comes 48 = .ok (.iconst 1, 1) := by decide +kernel
theorem dX9_comes_49 : decode cX9_comes 49 = .ok (.iadd, 1) := by decide +kernel
theorem dX9_comes_50 : decode cX9_comes 50 = .ok (.putfield 177, 3) := by decide +kernel
theorem dX9_comes_53 : decode cX9_comes 53 = .ok (.return_, 1) := by decide +kernel
theorem dX9_fault_0 : decode cX9_fault 0 = .ok (.iload_n 1, 1) := by decide +kernel
theorem dX9_fault_1 : decode cX9_fault 1 = .ok (.iconst 0, 1) := by decide +kernel
theorem dX9_fault_2 : decode cX9_fault 2 = .ok (.iconst 1, 1) := by decide +kernel
theorem dX9_fault_3 : decode cX9_fault 3 = .ok (.invokestatic 123, 3) := by decide +kernel
theorem dX9_fault_6 : decode cX9_fault 6 = .ok (.ifCond .eq 21, 3) := by decide +kernel
theorem dX9_fault_9 : decode cX9_fault 9 = .ok (.iload_n 2, 1) := by decide +kernel
theorem dX9_fault_10 : decode cX9_fault 10 = .ok (.iconst 0, 1) := by decide +kernel
theorem dX9_fault_11 : decode cX9_fault 11 = .ok (.aload_n 0, 1) := by decide +kernel
theorem dX9_fault_12 : decode cX9_fault 12 = .ok (.invokevirtual 160, 3) := by decide +kernel
theorem dX9_fault_15 : decode cX9_fault 15 = .ok (.iconst 1, 1) := by decide +kernel
theorem dX9_fault_16 : decode cX9_fault 16 = .ok (.isub, 1) := by decide +kernel
theorem dX9_fault_17 : decode cX9_fault 17 = .ok (.invokestatic 123, 3) := by decide +kernel
theorem dX9_fault_20 : decode cX9_fault 20 = .ok (.ifCond .eq 7, 3) := by decide +kernel
theorem dX9_fault_23 : decode cX9_fault 23 = .ok (.iconst 1, 1) := by decide +kernel
theorem dX9_fault_24 : decode cX9_fault 24 = .ok (.goto 4, 3) := by decide +kernel
theorem dX9_fault_27 : decode cX9_fault 27 = .ok (.iconst 0, 1) := by decide +kernel
theorem dX9_fault_28 : decode cX9_fault 28 = .ok (.istore_n 3, 1) := by decide +kernel
theorem dX9_fault_29 : decode cX9_fault 29 = .ok (.aload_n 0, 1) := by decide +kernel
theorem dX9_fault_30 : decode cX9_fault 30 = .ok (.iload_n 3, 1) := by decide +kernel
theorem dX9_fault_31 : decode cX9_fault 31 = .ok (.ifCond .ne 7, 3) := by decide +kernel
theorem dX9_fault_34 : decode cX9_fault 34 = .ok (.iconst 1, 1) := by decide +kernel
theorem dX9_fault_35 : decode cX9_fault 35 = .ok (.goto 16, 3) := by decide +kernel
theorem dX9_fault_38 : decode cX9_fault 38 = .ok (.aload_n 0, 1) := by decide +kernel
theorem dX9_fault_39 : decode cX9_fault 39 = .ok (.getfield 177, 3) := by decide +kernel
theorem dX9_fault_42 : decode cX9_fault 42 = .ok (.iconst 4, 1) := by decide +kernel
theorem dX9_fault_43 : decode cX9_fault 43 = .ok (.if_icmp .ne 7, 3) := by decide +kernel
theorem dX9_fault_46 : decode cX9_fault 46 = .ok (.iconst 2, 1) := by decide +kernel
theorem dX9_fault_47 : decode cX9_fault 47 = .ok (.goto 4, 3) := by decide +kernel
theorem dX9_fault_50 : decode cX9_fault 50 = .ok (.iconst 0, 1) := by decide +kernel
theorem dX9_fault_51 : decode cX9_fault 51 = .ok (.putfield 120, 3) := by decide +kernel
theorem dX9_fault_54 : decode cX9_fault 54 = .ok (.aload_n 0, 1) := by decide +kernel
theorem dX9_fault_55 : decode cX9_fault 55 = .ok (.getfield 120, 3) := by decide +kernel
theorem dX9_fault_58 : decode cX9_fault 58 = .ok (.ifCond .le 5, 3) := by decide +kernel
theorem dX9_fault_61 : decode cX9_fault 61 = .ok (.iconst 0, 1) := by decide +kernel
theorem dX9_fault_62 : decode cX9_fault 62 = .ok (.ireturn, 1) := by decide +kernel
theorem dX9_fault_63 : decode cX9_fault 63 = .ok (.aload_n 0, 1) := by decide +kernel
theorem dX9_fault_64 : decode cX9_fault 64 = .ok (.iload_n 1, 1) := by decide +kernel
theorem dX9_fault_65 : decode cX9_fault 65 = .ok (.iload_n 2, 1) := by decide +kernel
theorem dX9_fault_66 : decode cX9_fault 66 = .ok (.invokevirtual 262, 3) := by decide +kernel
theorem dX9_fault_69 : decode cX9_fault 69 = .ok (.aload_n 0, 1) := by decide +kernel
theorem dX9_fault_70 : decode cX9_fault 70 = .ok (.getfield 177, 3) := by decide +kernel
theorem dX9_fault_73 : decode cX9_fault 73 = .ok (.ireturn, 1) := by decide +kernel
theorem dX9_begins_0 : decode cX9_begins 0 = .ok (.iconst 0, 1) := by decide +kernel
theorem dX9_begins_1 : decode cX9_begins 1 = .ok (.istore_n 2, 1) := by decide +kernel
theorem dX9_begins_2 : decode cX9_begins 2 = .ok (.iconst 0, 1) := by decide +kernel
theorem dX9_begins_3 : decode cX9_begins 3 = .ok (.istore_n 3, 1) := by decide +kernel
theorem dX9_begins_4 : decode cX9_begins 4 = .ok (.iload_n 3, 1) := by decide +kernel
theorem dX9_begins_5 : decode cX9_begins 5 = .ok (.iload_n 1, 1) := by decide +kernel
theorem dX9_begins_6 : decode cX9_begins 6 = .ok (.if_icmp .ge 18, 3) := by decide +kernel
theorem dX9_begins_9 : decode cX9_begins 9 = .ok (.iload_n 2, 1) := by decide +kernel
theorem dX9_begins_10 : decode cX9_begins 10 = .ok (.aload_n 0, 1) := by decide +kernel
theorem dX9_begins_11 : decode cX9_begins 11 = .ok (.getfield 74, 3) := by decide +kernel
theorem dX9_begins_14 : decode cX9_begins 14 = .ok (.iload_n 3, 1) := by decide +kernel
theorem dX9_begins_15 : decode cX9_begins 15 = .ok (.iaload, 1) := by decide +kernel
theorem dX9_begins_16 : decode cX9_begins 16 = .ok (.iadd, 1) := by decide +kernel
theorem dX9_begins_17 : decode cX9_begins 17 = .ok (.istore_n 2, 1) := by decide +kernel
theorem dX9_begins_18 : decode cX9_begins 18 = .ok (.iinc 3 1, 3) := by decide +kernel
theorem dX9_begins_21 : decode cX9_begins 21 = .ok (.goto (-17), 3) := by decide +kernel
theorem dX9_begins_24 : decode cX9_begins 24 = .ok (.iload_n 2, 1) := by decide +kernel
theorem dX9_begins_25 : decode cX9_begins 25 = .ok (.ireturn, 1) := by decide +kernel
theorem dX9_net_0 : decode cX9_net 0 = .ok (.aload_n 0, 1) := by decide +kernel
theorem dX9_net_1 : decode cX9_net 1 = .ok (.iload_n 1, 1) := by decide +kernel
theorem dX9_net_2 : decode cX9_net 2 = .ok (.invokestatic 131, 3) := by decide +kernel
theorem dX9_net_5 : decode cX9_net 5 = .ok (.ifCond .ne 7, 3) := by decide +kernel
theorem dX9_net_8 : decode cX9_net 8 = .ok (.iconst 1, 1) := by decide +kernel
theorem dX9_net_9 : decode cX9_net 9 = .ok (.goto 16, 3) := by decide +kernel
theorem dX9_net_12 : decode cX9_net 12 = .ok (.aload_n 0, 1) := by decide +kernel
theorem dX9_net_13 : decode cX9_net 13 = .ok (.getfield 177, 3) := by decide +kernel
theorem dX9_net_16 : decode cX9_net 16 = .ok (.iconst 4, 1) := by decide +kernel
theorem dX9_net_17 : decode cX9_net 17 = .ok (.if_icmp .ne 7, 3) := by decide +kernel
theorem dX9_net_20 : decode cX9_net 20 = .ok (.iconst 2, 1) := by decide +kernel
theorem dX9_net_21 : decode cX9_net 21 = .ok (.goto 4, 3) := by decide +kernel
theorem dX9_net_24 : decode cX9_net 24 = .ok (.iconst 0, 1) := by decide +kernel
theorem dX9_net_25 : decode cX9_net 25 = .ok (.putfield 120, 3) := by decide +kernel
theorem dX9_net_28 : decode cX9_net 28 = .ok (.aload_n 0, 1) := by decide +kernel
theorem dX9_net_29 : decode cX9_net 29 = .ok (.getfield 120, 3) := by decide +kernel
theorem dX9_net_32 : decode cX9_net 32 = .ok (.ifCond .gt 11, 3) := by decide +kernel
theorem dX9_net_35 : decode cX9_net 35 = .ok (.iload_n 1, 1) := by decide +kernel
theorem dX9_net_36 : decode cX9_net 36 = .ok (.aload_n 0, 1) := by decide +kernel
theorem dX9_net_37 : decode cX9_net 37 = .ok (.getfield 135, 3) := by decide +kernel
theorem dX9_net_40 : decode cX9_net 40 = .ok (.if_icmp .lt 5, 3) := by decide +kernel
theorem dX9_net_43 : decode cX9_net 43 = .ok (.iconst 0, 1) := by decide +kernel
theorem dX9_net_44 : decode cX9_net 44 = .ok (.ireturn, 1) := by decide +kernel
theorem dX9_net_45 : decode cX9_net 45 = .ok (.aload_n 0, 1) := by decide +kernel
theorem dX9_net_46 : decode cX9_net 46 = .ok (.iload_n 1, 1) := by decide +kernel
theorem dX9_net_47 : decode cX9_net 47 = .ok (.invokevirtual 266, 3) := by decide +kernel
theorem dX9_net_50 : decode cX9_net 50 = .ok (.aload_n 0, 1) := by decide +kernel
theorem dX9_net_51 : decode cX9_net 51 = .ok (.getfield 74, 3) := by decide +kernel
theorem dX9_net_54 : decode cX9_net 54 = .ok (.iload_n 1, 1) := by decide +kernel
theorem dX9_net_55 : decode cX9_net 55 = .ok (.iaload, 1) := by decide +kernel
theorem dX9_net_56 : decode cX9_net 56 = .ok (.iconst 2, 1) := by decide +kernel
theorem dX9_net_57 : decode cX9_net 57 = .ok (.idiv, 1) := by decide +kernel
theorem dX9_net_58 : decode cX9_net 58 = .ok (.iadd, 1) := by decide +kernel
theorem dX9_net_59 : decode cX9_net 59 = .ok (.istore_n 2, 1) := by decide +kernel
theorem dX9_net_60 : decode cX9_net 60 = .ok (.aload_n 0, 1) := by decide +kernel
theorem dX9_net_61 : decode cX9_net 61 = .ok (.iload_n 1, 1) := by decide +kernel
theorem dX9_net_62 : decode cX9_net 62 = .ok (.invokevirtual 127, 3) := by decide +kernel
theorem dX9_net_65 : decode cX9_net 65 = .ok (.sipush 300, 3) := by decide +kernel
theorem dX9_net_68 : decode cX9_net 68 = .ok (.if_icmp .ge 16, 3) := by decide +kernel
theorem dX9_net_71 : decode cX9_net 71 = .ok (.aload_n 0, 1) := by decide +kernel
theorem dX9_net_72 : decode cX9_net 72 = .ok (.iload_n 2, 1) := by decide +kernel
theorem dX9_net_73 : decode cX9_net 73 = .ok (.invokevirtual 200, 3) := by decide +kernel
theorem dX9_net_76 : decode cX9_net 76 = .ok (.iconst 2, 1) := by decide +kernel
theorem dX9_net_77 : decode cX9_net 77 = .ok (.if_icmp .lt 7, 3) := by decide +kernel
theorem dX9_net_80 : decode cX9_net 80 = .ok (.iconst 1, 1) := by decide +kernel
theorem dX9_net_81 : decode cX9_net 81 = .ok (.goto 4, 3) := by decide +kernel
theorem dX9_net_84 : decode cX9_net 84 = .ok (.iconst 0, 1) := by decide +kernel
theorem dX9_net_85 : decode cX9_net 85 = .ok (.istore_n 3, 1) := by decide +kernel
theorem dX9_net_86 : decode cX9_net 86 = .ok (.iload_n 3, 1) := by decide +kernel
theorem dX9_net_87 : decode cX9_net 87 = .ok (.ifCond .eq 9, 3) := by decide +kernel
theorem dX9_net_90 : decode cX9_net 90 = .ok (.aload_n 0, 1) := by decide +kernel
theorem dX9_net_91 : decode cX9_net 91 = .ok (.iconst 1, 1) := by decide +kernel
theorem dX9_net_92 : decode cX9_net 92 = .ok (.iload_n 2, 1) := by decide +kernel
theorem dX9_net_93 : decode cX9_net 93 = .ok (.invokevirtual 262, 3) := by decide +kernel
theorem dX9_net_96 : decode cX9_net 96 = .ok (.iload_n 3, 1) := by decide +kernel
theorem dX9_net_97 : decode cX9_net 97 = .ok (.ireturn, 1) := by decide +kernel
theorem dX9_measure_0 : decode cX9_measure 0 = .ok (.aload_n 0, 1) := by decide +kernel
theorem dX9_measure_1 : decode cX9_measure 1 = .ok (.iload_n 3, 1) := by decide +kernel
theorem dX9_measure_2 : decode cX9_measure 2 = .ok (.iconst 0, 1) := by decide +kernel
theorem dX9_measure_3 : decode cX9_measure 3 = .ok (.ldc 138, 2) := by decide +kernel
theorem dX9_measure_5 : decode cX9_measure 5 = .ok (.invokestatic 123, 3) := by decide +kernel
theorem dX9_measure_8 : decode cX9_measure 8 = .ok (.ifCond .ne 7, 3) := by decide +kernel
theorem dX9_measure_11 : decode cX9_measure 11 = .ok (.iconst 1, 1) := by decide +kernel
theorem dX9_measure_12 : decode cX9_measure 12 = .ok (.goto 15, 3) := by decide +kernel
theorem dX9_measure_15 : decode cX9_measure 15 = .ok (.aload_n 0, 1) := by decide +kernel
theorem dX9_measure_16 : decode cX9_measure 16 = .ok (.invokevirtual 149, 3) := by decide +kernel
theorem dX9_measure_19 : decode cX9_measure 19 = .ok (.ifCond .ne 7, 3) := by decide +kernel
theorem dX9_measure_22 : decode cX9_measure 22 = .ok (.iconst 2, 1) := by decide +kernel
theorem dX9_measure_23 : decode cX9_measure 23 = .ok (.goto 4, 3) := by decide +kernel
theorem dX9_measure_26 : decode cX9_measure 26 = .ok (.iconst 0, 1) := by decide +kernel
theorem dX9_measure_27 : decode cX9_measure 27 = .ok (.putfield 120, 3) := by decide +kernel
theorem dX9_measure_30 : decode cX9_measure 30 = .ok (.aload_n 0, 1) := by decide +kernel
theorem dX9_measure_31 : decode cX9_measure 31 = .ok (.getfield 120, 3) := by decide +kernel
theorem dX9_measure_34 : decode cX9_measure 34 = .ok (.ifCond .le 5, 3) := by decide +kernel
theorem dX9_measure_37 : decode cX9_measure 37 = .ok (.iconst 0, 1) := by decide +kernel
theorem dX9_measure_38 : decode cX9_measure 38 = .ok (.ireturn, 1) := by decide +kernel
theorem dX9_measure_39 : decode cX9_measure 39 = .ok (.aload_n 0, 1) := by decide +kernel
theorem dX9_measure_40 : decode cX9_measure 40 = .ok (.invokevirtual 160, 3) := by decide +kernel
theorem dX9_measure_43 : decode cX9_measure 43 = .ok (.istore 4, 2) := by decide +kernel
theorem dX9_measure_45 : decode cX9_measure 45 = .ok (.iconst (-1), 1) := by decide +kernel
theorem dX9_measure_46 : decode cX9_measure 46 = .ok (.istore 5, 2) := by decide +kernel
theorem dX9_measure_48 : decode cX9_measure 48 = .ok (.iconst 0, 1) := by decide +kernel
theorem dX9_measure_49 : decode cX9_measure 49 = .ok (.istore 6, 2) := by decide +kernel
theorem dX9_measure_51 : decode cX9_measure 51 = .ok (.iload 6, 2) := by decide +kernel
theorem dX9_measure_53 : decode cX9_measure 53 = .ok (.aload_n 0, 1) := by decide +kernel
theorem dX9_measure_54 : decode cX9_measure 54 = .ok (.getfield 177, 3) := by decide +kernel
theorem dX9_measure_57 : decode cX9_measure 57 = .ok (.if_icmp .ge 92, 3) := by decide +kernel
theorem dX9_measure_60 : decode cX9_measure 60 = .ok (.iload_n 2, 1) := by decide +kernel
theorem dX9_measure_61 : decode cX9_measure 61 = .ok (.ifCond .ne 14, 3) := by decide +kernel
theorem dX9_measure_64 : decode cX9_measure 64 = .ok (.aload_n 0, 1) := by decide +kernel
theorem dX9_measure_65 : decode cX9_measure 65 = .ok (.getfield 77, 3) := by decide +kernel
theorem dX9_measure_68 : decode cX9_measure 68 = .ok (.iload 6, 2) := by decide +kernel
theorem dX9_measure_70 : decode cX9_measure 70 = .ok (.iaload, 1) := by decide +kernel
theorem dX9_measure_71 : decode cX9_measure 71 = .ok (.iconst 1, 1) := by decide +kernel
theorem dX9_measure_72 : decode cX9_measure 72 = .ok (.if_icmp .ne 7, 3) := by decide +kernel
theorem dX9_measure_75 : decode cX9_measure 75 = .ok (.iconst 1, 1) := by decide +kernel
theorem dX9_measure_76 : decode cX9_measure 76 = .ok (.goto 4, 3) := by decide +kernel
theorem dX9_measure_79 : decode cX9_measure 79 = .ok (.iconst 0, 1) := by decide +kernel
theorem dX9_measure_80 : decode cX9_measure 80 = .ok (.istore 7, 2) := by decide +kernel
theorem dX9_measure_82 : decode cX9_measure 82 = .ok (.iload 7, 2) := by decide +kernel
theorem dX9_measure_84 : decode cX9_measure 84 = .ok (.ifCond .eq 55, 3) := by decide +kernel
theorem dX9_measure_87 : decode cX9_measure 87 = .ok (.iload 5, 2) := by decide +kernel
theorem dX9_measure_89 : decode cX9_measure 89 = .ok (.iconst (-1), 1) := by decide +kernel
theorem dX9_measure_90 : decode cX9_measure 90 = .ok (.if_icmp .eq 44, 3) := by decide +kernel
theorem dX9_measure_93 : decode cX9_measure 93 = .ok (.iload_n 1, 1) := by decide +kernel
theorem dX9_measure_94 : decode cX9_measure 94 = .ok (.ifCond .eq 23, 3) := by decide +kernel
theorem dX9_measure_97 : decode cX9_measure 97 = .ok (.aload_n 0, 1) := by decide +kernel
theorem dX9_measure_98 : decode cX9_measure 98 = .ok (.getfield 80, 3) := by decide +kernel
theorem dX9_measure_101 : decode cX9_measure 101 = .ok (.iload 6, 2) := by decide +kernel
theorem dX9_measure_103 : decode cX9_measure 103 = .ok (.iaload, 1) := by decide +kernel
theorem dX9_measure_104 : decode cX9_measure 104 = .ok (.aload_n 0, 1) := by decide +kernel
theorem dX9_measure_105 : decode cX9_measure 105 = .ok (.getfield 80, 3) := by decide +kernel
theorem dX9_measure_108 : decode cX9_measure 108 = .ok (.iload 5, 2) := by decide +kernel
theorem dX9_measure_110 : decode cX9_measure 110 = .ok (.iaload, 1) := by decide +kernel
theorem dX9_measure_111 : decode cX9_measure 111 = .ok (.if_icmp .le 28, 3) := by decide +kernel
theorem dX9_measure_114 : decode cX9_measure 114 = .ok (.goto 20, 3) := by decide +kernel
theorem dX9_measure_117 : decode cX9_measure 117 = .ok (.aload_n 0, 1) := by decide +kernel
theorem dX9_measure_118 : decode cX9_measure 118 = .ok (.getfield 80, 3) := by decide +kernel
theorem dX9_measure_121 : decode cX9_measure 121 = .ok (.iload 6, 2) := by decide +kernel
theorem dX9_measure_123 : decode cX9_measure 123 = .ok (.iaload, 1) := by decide +kernel
theorem dX9_measure_124 : decode cX9_measure 124 = .ok (.aload_n 0, 1) := by decide +kernel
theorem dX9_measure_125 : decode cX9_measure 125 = .ok (.getfield 80, 3) := by decide +kernel
theorem dX9_measure_128 : decode cX9_measure 128 = .ok (.iload 5, 2) := by decide +kernel
theorem dX9_measure_130 : decode cX9_measure 130 = .ok (.iaload, 1) := by decide +kernel
theorem dX9_measure_131 : decode cX9_measure 131 = .ok (.if_icmp .ge 8, 3) := by decide +kernel
theorem dX9_measure_134 : decode cX9_measure 134 = .ok (.iload 6, 2) := by decide +kernel
theorem dX9_measure_136 : decode cX9_measure 136 = .ok (.goto 5, 3) := by decide +kernel
theorem dX9_measure_139 : decode cX9_measure 139 = .ok (.iload 5, 2) := by decide +kernel
theorem dX9_measure_141 : decode cX9_measure 141 = .ok (.istore 5, 2) := by decide +kernel
theorem dX9_measure_143 : decode cX9_measure 143 = .ok (.iinc 6 1, 3) := by decide +kernel
theorem dX9_measure_146 : decode cX9_measure 146 = .ok (.goto (-95), 3) := by decide +kernel
theorem dX9_measure_149 : decode cX9_measure 149 = .ok (.iload 5, 2) := by decide +kernel
theorem dX9_measure_151 : decode cX9_measure 151 = .ok (.iconst (-1), 1) := by decide +kernel
theorem dX9_measure_152 : decode cX9_measure 152 = .ok (.if_icmp .ne 5, 3) := by decide +kernel
theorem dX9_measure_155 : decode cX9_measure 155 = .ok (.iconst (-1), 1) := by decide +kernel
theorem dX9_measure_156 : decode cX9_measure 156 = .ok (.ireturn, 1) := by decide +kernel
theorem dX9_measure_157 : decode cX9_measure 157 = .ok (.aload_n 0, 1) := by decide +kernel
theorem dX9_measure_158 : decode cX9_measure 158 = .ok (.aload_n 0, 1) := by decide +kernel
theorem dX9_measure_159 : decode cX9_measure 159 = .ok (.getfield 80, 3) := by decide +kernel
theorem dX9_measure_162 : decode cX9_measure 162 = .ok (.iload 5, 2) := by decide +kernel
theorem dX9_measure_164 : decode cX9_measure 164 = .ok (.iaload, 1) := by decide +kernel
theorem dX9_measure_165 : decode cX9_measure 165 = .ok (.invokevirtual 250, 3) := by decide +kernel
theorem dX9_measure_168 : decode cX9_measure 168 = .ok (.istore 6, 2) := by decide +kernel
theorem dX9_measure_170 : decode cX9_measure 170 = .ok (.iload_n 2, 1) := by decide +kernel
theorem dX9_measure_171 : decode cX9_measure 171 = .ok (.ifCond .ne 25, 3) := by decide +kernel
theorem dX9_measure_174 : decode cX9_measure 174 = .ok (.iload_n 1, 1) := by decide +kernel
theorem dX9_measure_175 : decode cX9_measure 175 = .ok (.ifCond .eq 14, 3) := by decide +kernel
theorem dX9_measure_178 : decode cX9_measure 178 = .ok (.aload_n 0, 1) := by decide +kernel
theorem dX9_measure_179 : decode cX9_measure 179 = .ok (.iconst 2, 1) := by decide +kernel
theorem dX9_measure_180 : decode cX9_measure 180 = .ok (.invokevirtual 236, 3) := by decide +kernel
theorem dX9_measure_183 : decode cX9_measure 183 = .ok (.iload 6, 2) := by decide +kernel
theorem dX9_measure_185 : decode cX9_measure 185 = .ok (.isub, 1) := by decide +kernel
theorem dX9_measure_186 : decode cX9_measure 186 = .ok (.goto 5, 3) := by decide +kernel
theorem dX9_measure_189 : decode cX9_measure 189 = .ok (.iload 6, 2) := by decide +kernel
theorem dX9_measure_191 : decode cX9_measure 191 = .ok (.ifCond .le 5, 3) := by decide +kernel
theorem dX9_measure_194 : decode cX9_measure 194 = .ok (.iconst (-1), 1) := by decide +kernel
theorem dX9_measure_195 : decode cX9_measure 195 = .ok (.ireturn, 1) := by decide +kernel
theorem dX9_measure_196 : decode cX9_measure 196 = .ok (.iload_n 1, 1) := by decide +kernel
theorem dX9_measure_197 : decode cX9_measure 197 = .ok (.ifCond .eq 16, 3) := by decide +kernel
theorem dX9_measure_200 : decode cX9_measure 200 = .ok (.iload 4, 2) := by decide +kernel
theorem dX9_measure_202 : decode cX9_measure 202 = .ok (.aload_n 0, 1) := by decide +kernel
theorem dX9_measure_203 : decode cX9_measure 203 = .ok (.getfield 80, 3) := by decide +kernel
theorem dX9_measure_206 : decode cX9_measure 206 = .ok (.iload 5, 2) := by decide +kernel
theorem dX9_measure_208 : decode cX9_measure 208 = .ok (.iaload, 1) := by decide +kernel
theorem dX9_measure_209 : decode cX9_measure 209 = .ok (.isub, 1) := by decide +kernel
theorem dX9_measure_210 : decode cX9_measure 210 = .ok (.goto 10, 3) := by decide +kernel
theorem dX9_measure_213 : decode cX9_measure 213 = .ok (.aload_n 0, 1) := by decide +kernel
theorem dX9_measure_214 : decode cX9_measure 214 = .ok (.getfield 80, 3) := by decide +kernel
theorem dX9_measure_217 : decode cX9_measure 217 = .ok (.iload 5, 2) := by decide +kernel
theorem dX9_measure_219 : decode cX9_measure 219 = .ok (.iaload, 1) := by decide +kernel
theorem dX9_measure_220 : decode cX9_measure 220 = .ok (.istore 7, 2) := by decide +kernel
theorem dX9_measure_222 : decode cX9_measure 222 = .ok (.iload 7, 2) := by decide +kernel
theorem dX9_measure_224 : decode cX9_measure 224 = .ok (.sipush 200, 3) := by decide +kernel
theorem dX9_measure_227 : decode cX9_measure 227 = .ok (.idiv, 1) := by decide +kernel
theorem dX9_measure_228 : decode cX9_measure 228 = .ok (.bipush 10, 2) := by decide +kernel
theorem dX9_measure_230 : decode cX9_measure 230 = .ok (.iadd, 1) := by decide +kernel
theorem dX9_measure_231 : decode cX9_measure 231 = .ok (.iload_n 2, 1) := by decide +kernel
theorem dX9_measure_232 : decode cX9_measure 232 = .ok (.ifCond .eq 7, 3) := by decide +kernel
theorem dX9_measure_235 : decode cX9_measure 235 = .ok (.iconst 2, 1) := by decide +kernel
theorem dX9_measure_236 : decode cX9_measure 236 = .ok (.goto 4, 3) := by decide +kernel
theorem dX9_measure_239 : decode cX9_measure 239 = .ok (.iconst 1, 1) := by decide +kernel
theorem dX9_measure_240 : decode cX9_measure 240 = .ok (.imul, 1) := by decide +kernel
theorem dX9_measure_241 : decode cX9_measure 241 = .ok (.istore 8, 2) := by decide +kernel
theorem dX9_measure_243 : decode cX9_measure 243 = .ok (.iload 7, 2) := by decide +kernel
theorem dX9_measure_245 : decode cX9_measure 245 = .ok (.iload 8, 2) := by decide +kernel
theorem dX9_measure_247 : decode cX9_measure 247 = .ok (.isub, 1) := by decide +kernel
theorem dX9_measure_248 : decode cX9_measure 248 = .ok (.iload_n 3, 1) := by decide +kernel
theorem dX9_measure_249 : decode cX9_measure 249 = .ok (.iconst 2, 1) := by decide +kernel
theorem dX9_measure_250 : decode cX9_measure 250 = .ok (.iload 8, 2) := by decide +kernel
theorem dX9_measure_252 : decode cX9_measure 252 = .ok (.imul, 1) := by decide +kernel
theorem dX9_measure_253 : decode cX9_measure 253 = .ok (.iconst 1, 1) := by decide +kernel
theorem dX9_measure_254 : decode cX9_measure 254 = .ok (.iadd, 1) := by decide +kernel
theorem dX9_measure_255 : decode cX9_measure 255 = .ok (.irem, 1) := by decide +kernel
theorem dX9_measure_256 : decode cX9_measure 256 = .ok (.iadd, 1) := by decide +kernel
theorem dX9_measure_257 : decode cX9_measure 257 = .ok (.istore 9, 2) := by decide +kernel
theorem dX9_measure_259 : decode cX9_measure 259 = .ok (.iload 9, 2) := by decide +kernel
theorem dX9_measure_261 : decode cX9_measure 261 = .ok (.ifCond .ge 7, 3) := by decide +kernel
theorem dX9_measure_264 : decode cX9_measure 264 = .ok (.iconst 0, 1) := by decide +kernel
theorem dX9_measure_265 : decode cX9_measure 265 = .ok (.goto 5, 3) := by decide +kernel
theorem dX9_measure_268 : decode cX9_measure 268 = .ok (.iload 9, 2) := by decide +kernel
theorem dX9_measure_270 : decode cX9_measure 270 = .ok (.istore 9, 2) := by decide +kernel
theorem dX9_measure_272 : decode cX9_measure 272 = .ok (.iload 9, 2) := by decide +kernel
theorem dX9_measure_274 : decode cX9_measure 274 = .ok (.sipush 190, 3) := by decide +kernel
theorem dX9_measure_277 : decode cX9_measure 277 = .ok (.idiv, 1) := by decide +kernel
theorem dX9_measure_278 : decode cX9_measure 278 = .ok (.bipush 12, 2) := by decide +kernel
theorem dX9_measure_280 : decode cX9_measure 280 = .ok (.iadd, 1) := by decide +kernel
theorem dX9_measure_281 : decode cX9_measure 281 = .ok (.iload_n 2, 1) := by decide +kernel
theorem dX9_measure_282 : decode cX9_measure 282 = .ok (.ifCond .eq 7, 3) := by decide +kernel
theorem dX9_measure_285 : decode cX9_measure 285 = .ok (.iconst 2, 1) := by decide +kernel
theorem dX9_measure_286 : decode cX9_measure 286 = .ok (.goto 4, 3) := by decide +kernel
theorem dX9_measure_289 : decode cX9_measure 289 = .ok (.iconst 1, 1) := by decide +kernel
theorem dX9_measure_290 : decode cX9_measure 290 = .ok (.imul, 1) := by decide +kernel
theorem dX9_measure_291 : decode cX9_measure 291 = .ok (.istore 10, 2) := by decide +kernel
theorem dX9_measure_293 : decode cX9_measure 293 = .ok (.iload_n 1, 1) := by decide +kernel
theorem dX9_measure_294 : decode cX9_measure 294 = .ok (.ifCond .eq 11, 3) := by decide +kernel
theorem dX9_measure_297 : decode cX9_measure 297 = .ok (.iload 4, 2) := by decide +kernel
theorem dX9_measure_299 : decode cX9_measure 299 = .ok (.iload 9, 2) := by decide +kernel
theorem dX9_measure_301 : decode cX9_measure 301 = .ok (.isub, 1) := by decide +kernel
theorem dX9_measure_302 : decode cX9_measure 302 = .ok (.goto 5, 3) := by decide +kernel
theorem dX9_measure_305 : decode cX9_measure 305 = .ok (.iload 9, 2) := by decide +kernel
theorem dX9_measure_307 : decode cX9_measure 307 = .ok (.istore 11, 2) := by decide +kernel
theorem dX9_measure_309 : decode cX9_measure 309 = .ok (.aload_n 0, 1) := by decide +kernel
theorem dX9_measure_310 : decode cX9_measure 310 = .ok (.getfield 83, 3) := by decide +kernel
theorem dX9_measure_313 : decode cX9_measure 313 = .ok (.iload 5, 2) := by decide +kernel
theorem dX9_measure_315 : decode cX9_measure 315 = .ok (.iload 11, 2) := by decide +kernel
theorem dX9_measure_317 : decode cX9_measure 317 = .ok (.iload 10, 2) := by decide +kernel
theorem dX9_measure_319 : decode cX9_measure 319 = .ok (.isub, 1) := by decide +kernel
theorem dX9_measure_320 : decode cX9_measure 320 = .ok (.aload_n 0, 1) := by decide +kernel
theorem dX9_measure_321 : decode cX9_measure 321 = .ok (.getfield 83, 3) := by decide +kernel
theorem dX9_measure_324 : decode cX9_measure 324 = .ok (.iload 5, 2) := by decide +kernel
theorem dX9_measure_326 : decode cX9_measure 326 = .ok (.iaload, 1) := by decide +kernel
theorem dX9_measure_327 : decode cX9_measure 327 = .ok (.if_icmp .le 11, 3) := by decide +kernel
theorem dX9_measure_330 : decode cX9_measure 330 = .ok (.iload 11, 2) := by decide +kernel
theorem dX9_measure_332 : decode cX9_measure 332 = .ok (.iload 10, 2) := by decide +kernel
theorem dX9_measure_334 : decode cX9_measure 334 = .ok (.isub, 1) := by decide +kernel
theorem dX9_measure_335 : decode cX9_measure 335 = .ok (.goto 10, 3) := by decide +kernel
theorem dX9_measure_338 : decode cX9_measure 338 = .ok (.aload_n 0, 1) := by decide +kernel
theorem dX9_measure_339 : decode cX9_measure 339 = .ok (.getfield 83, 3) := by decide +kernel
theorem dX9_measure_342 : decode cX9_measure 342 = .ok (.iload 5, 2) := by decide +kernel
theorem dX9_measure_344 : decode cX9_measure 344 = .ok (.iaload, 1) := by decide +kernel
theorem dX9_measure_345 : decode cX9_measure 345 = .ok (.iastore, 1) := by decide +kernel
theorem dX9_measure_346 : decode cX9_measure 346 = .ok (.aload_n 0, 1) := by decide +kernel
theorem dX9_measure_347 : decode cX9_measure 347 = .ok (.getfield 86, 3) := by decide +kernel
theorem dX9_measure_350 : decode cX9_measure 350 = .ok (.iload 5, 2) := by decide +kernel
theorem dX9_measure_352 : decode cX9_measure 352 = .ok (.iload 11, 2) := by decide +kernel
theorem dX9_measure_354 : decode cX9_measure 354 = .ok (.iload 10, 2) := by decide +kernel
theorem dX9_measure_356 : decode cX9_measure 356 = .ok (.iadd, 1) := by decide +kernel
theorem dX9_measure_357 : decode cX9_measure 357 = .ok (.aload_n 0, 1) := by decide +kernel
theorem dX9_measure_358 : decode cX9_measure 358 = .ok (.getfield 86, 3) := by decide +kernel
theorem dX9_measure_361 : decode cX9_measure 361 = .ok (.iload 5, 2) := by decide +kernel
theorem dX9_measure_363 : decode cX9_measure 363 = .ok (.iaload, 1) := by decide +kernel
theorem dX9_measure_364 : decode cX9_measure 364 = .ok (.if_icmp .ge 11, 3) := by decide +kernel
theorem dX9_measure_367 : decode cX9_measure 367 = .ok (.iload 11, 2) := by decide +kernel
theorem dX9_measure_369 : decode cX9_measure 369 = .ok (.iload 10, 2) := by decide +kernel
theorem dX9_measure_371 : decode cX9_measure 371 = .ok (.iadd, 1) := by decide +kernel
theorem dX9_measure_372 : decode cX9_measure 372 = .ok (.goto 10, 3) := by decide +kernel
theorem dX9_measure_375 : decode cX9_measure 375 = .ok (.aload_n 0, 1) := by decide +kernel
theorem dX9_measure_376 : decode cX9_measure 376 = .ok (.getfield 86, 3) := by decide +kernel
theorem dX9_measure_379 : decode cX9_measure 379 = .ok (.iload 5, 2) := by decide +kernel
theorem dX9_measure_381 : decode cX9_measure 381 = .ok (.iaload, 1) := by decide +kernel
theorem dX9_measure_382 : decode cX9_measure 382 = .ok (.iastore, 1) := by decide +kernel
theorem dX9_measure_383 : decode cX9_measure 383 = .ok (.iload 9, 2) := by decide +kernel
theorem dX9_measure_385 : decode cX9_measure 385 = .ok (.ireturn, 1) := by decide +kernel
theorem dX9_keeps_0 : decode cX9_keeps 0 = .ok (.aload_n 0, 1) := by decide +kernel
theorem dX9_keeps_1 : decode cX9_keeps 1 = .ok (.getfield 62, 3) := by decide +kernel
theorem dX9_keeps_4 : decode cX9_keeps 4 = .ok (.aload_n 0, 1) := by decide +kernel
theorem dX9_keeps_5 : decode cX9_keeps 5 = .ok (.getfield 269, 3) := by decide +kernel
theorem dX9_keeps_8 : decode cX9_keeps 8 = .ok (.iload_n 1, 1) := by decide +kernel
theorem dX9_keeps_9 : decode cX9_keeps 9 = .ok (.iastore, 1) := by decide +kernel
theorem dX9_keeps_10 : decode cX9_keeps 10 = .ok (.aload_n 0, 1) := by decide +kernel
theorem dX9_keeps_11 : decode cX9_keeps 11 = .ok (.getfield 65, 3) := by decide +kernel
theorem dX9_keeps_14 : decode cX9_keeps 14 = .ok (.aload_n 0, 1) := by decide +kernel
theorem dX9_keeps_15 : decode cX9_keeps 15 = .ok (.getfield 269, 3) := by decide +kernel
theorem dX9_keeps_18 : decode cX9_keeps 18 = .ok (.iload_n 2, 1) := by decide +kernel
theorem dX9_keeps_19 : decode cX9_keeps 19 = .ok (.iastore, 1) := by decide +kernel
theorem dX9_keeps_20 : decode cX9_keeps 20 = .ok (.aload_n 0, 1) := by decide +kernel
theorem dX9_keeps_21 : decode cX9_keeps 21 = .ok (.getfield 68, 3) := by decide +kernel
theorem dX9_keeps_24 : decode cX9_keeps 24 = .ok (.aload_n 0, 1) := by decide +kernel
theorem dX9_keeps_25 : decode cX9_keeps 25 = .ok (.getfield 269, 3) := by decide +kernel
theorem dX9_keeps_28 : decode cX9_keeps 28 = .ok (.iload_n 3, 1) := by decide +kernel
theorem dX9_keeps_29 : decode cX9_keeps 29 = .ok (.iastore, 1) := by decide +kernel
theorem dX9_keeps_30 : decode cX9_keeps 30 = .ok (.aload_n 0, 1) := by decide +kernel
theorem dX9_keeps_31 : decode cX9_keeps 31 = .ok (.getfield 71, 3) := by decide +kernel
theorem dX9_keeps_34 : decode cX9_keeps 34 = .ok (.aload_n 0, 1) := by decide +kernel
theorem dX9_keeps_35 : decode cX9_keeps 35 = .ok (.getfield 269, 3) := by decide +kernel
theorem dX9_keeps_38 : decode cX9_keeps 38 = .ok (.iload 4, 2) := by decide +kernel
theorem dX9_keeps_40 : decode cX9_keeps 40 = .ok (.iastore, 1) := by decide +kernel
theorem dX9_keeps_41 : decode cX9_keeps 41 = .ok (.aload_n 0, 1) := by decide +kernel
theorem dX9_keeps_42 : decode cX9_keeps 42 = .ok (.dup, 1) := by decide +kernel
theorem dX9_keeps_43 : decode cX9_keeps 43 = .ok (.getfield 269, 3) := by decide +kernel
theorem dX9_keeps_46 : decode cX9_keeps 46 = .ok (.iconst 1, 1) := by decide +kernel
theorem dX9_keeps_47 : decode cX9_keeps 47 = .ok (.iadd, 1) := by decide +kernel
theorem dX9_keeps_48 : decode cX9_keeps 48 = .ok (.putfield 269, 3) := by decide +kernel
theorem dX9_keeps_51 : decode cX9_keeps 51 = .ok (.return_, 1) := by decide +kernel
theorem dX9_keepsFrom_0 : decode cX9_keepsFrom 0 = .ok (.iconst 0, 1) := by decide +kernel
theorem dX9_keepsFrom_1 : decode cX9_keepsFrom 1 = .ok (.istore 5, 2) := by decide +kernel
theorem dX9_keepsFrom_3 : decode cX9_keepsFrom 3 = .ok (.iconst 0, 1) := by decide +kernel
theorem dX9_keepsFrom_4 : decode cX9_keepsFrom 4 = .ok (.istore 6, 2) := by decide +kernel
theorem dX9_keepsFrom_6 : decode cX9_keepsFrom 6 = .ok (.iload 6, 2) := by decide +kernel
theorem dX9_keepsFrom_8 : decode cX9_keepsFrom 8 = .ok (.aload_n 0, 1) := by decide +kernel
theorem dX9_keepsFrom_9 : decode cX9_keepsFrom 9 = .ok (.getfield 171, 3) := by decide +kernel
theorem dX9_keepsFrom_12 : decode cX9_keepsFrom 12 = .ok (.if_icmp .ge 183, 3) := by decide +kernel
theorem dX9_keepsFrom_15 : decode cX9_keepsFrom 15 = .ok (.aload_n 0, 1) := by decide +kernel
theorem dX9_keepsFrom_16 : decode cX9_keepsFrom 16 = .ok (.iload 6, 2) := by decide +kernel
theorem dX9_keepsFrom_18 : decode cX9_keepsFrom 18 = .ok (.invokevirtual 174, 3) := by decide +kernel
theorem dX9_keepsFrom_21 : decode cX9_keepsFrom 21 = .ok (.istore 7, 2) := by decide +kernel
theorem dX9_keepsFrom_23 : decode cX9_keepsFrom 23 = .ok (.aload_n 0, 1) := by decide +kernel
theorem dX9_keepsFrom_24 : decode cX9_keepsFrom 24 = .ok (.getfield 50, 3) := by decide +kernel
theorem dX9_keepsFrom_27 : decode cX9_keepsFrom 27 = .ok (.iload 6, 2) := by decide +kernel
theorem dX9_keepsFrom_29 : decode cX9_keepsFrom 29 = .ok (.iaload, 1) := by decide +kernel
theorem dX9_keepsFrom_30 : decode cX9_keepsFrom 30 = .ok (.ifCond .ne 87, 3) := by decide +kernel
theorem dX9_keepsFrom_33 : decode cX9_keepsFrom 33 = .ok (.iload 5, 2) := by decide +kernel
theorem dX9_keepsFrom_35 : decode cX9_keepsFrom 35 = .ok (.iload_n 1, 1) := by decide +kernel
theorem dX9_keepsFrom_36 : decode cX9_keepsFrom 36 = .ok (.if_icmp .le 8, 3) := by decide +kernel
theorem dX9_keepsFrom_39 : decode cX9_keepsFrom 39 = .ok (.iload 5, 2) := by decide +kernel
theorem dX9_keepsFrom_41 : decode cX9_keepsFrom 41 = .ok (.goto 4, 3) := by decide +kernel
theorem dX9_keepsFrom_44 : decode cX9_keepsFrom 44 = .ok (.iload_n 1, 1) := by decide +kernel
theorem dX9_keepsFrom_45 : decode cX9_keepsFrom 45 = .ok (.istore 8, 2) := by decide +kernel
theorem dX9_keepsFrom_47 : decode cX9_keepsFrom 47 = .ok (.iload 5, 2) := by decide +kernel
theorem dX9_keepsFrom_49 : decode cX9_keepsFrom 49 = .ok (.iload 7, 2) := by decide +kernel
theorem dX9_keepsFrom_51 : decode cX9_keepsFrom 51 = .ok (.iadd, 1) := by decide +kernel
theorem dX9_keepsFrom_52 : decode cX9_keepsFrom 52 = .ok (.iload_n 2, 1) := by decide +kernel
theorem dX9_keepsFrom_53 : decode cX9_keepsFrom 53 = .ok (.if_icmp .ge 11, 3) := by decide +kernel
theorem dX9_keepsFrom_56 : decode cX9_keepsFrom 56 = .ok (.iload 5, 2) := by decide +kernel
theorem dX9_keepsFrom_58 : decode cX9_keepsFrom 58 = .ok (.iload 7, 2) := by decide +kernel
theorem dX9_keepsFrom_60 : decode cX9_keepsFrom 60 = .ok (.iadd, 1) := by decide +kernel
theorem dX9_keepsFrom_61 : decode cX9_keepsFrom 61 = .ok (.goto 4, 3) := by decide +kernel
theorem dX9_keepsFrom_64 : decode cX9_keepsFrom 64 = .ok (.iload_n 2, 1) := by decide +kernel
theorem dX9_keepsFrom_65 : decode cX9_keepsFrom 65 = .ok (.istore 9, 2) := by decide +kernel
theorem dX9_keepsFrom_67 : decode cX9_keepsFrom 67 = .ok (.iload 9, 2) := by decide +kernel
theorem dX9_keepsFrom_69 : decode cX9_keepsFrom 69 = .ok (.iload 8, 2) := by decide +kernel
theorem dX9_keepsFrom_71 : decode cX9_keepsFrom 71 = .ok (.if_icmp .le 43, 3) := by decide +kernel
theorem dX9_keepsFrom_74 : decode cX9_keepsFrom 74 = .ok (.aload_n 0, 1) := by decide +kernel
theorem dX9_keepsFrom_75 : decode cX9_keepsFrom 75 = .ok (.iconst 0, 1) := by decide +kernel
theorem dX9_keepsFrom_76 : decode cX9_keepsFrom 76 = .ok (.aload_n 0, 1) := by decide +kernel
theorem dX9_keepsFrom_77 : decode cX9_keepsFrom 77 = .ok (.getfield 53, 3) := by decide +kernel
theorem dX9_keepsFrom_80 : decode cX9_keepsFrom 80 = .ok (.iload 6, 2) := by decide +kernel
theorem dX9_keepsFrom_82 : decode cX9_keepsFrom 82 = .ok (.iaload, 1) := by decide +kernel
theorem dX9_keepsFrom_83 : decode cX9_keepsFrom 83 = .ok (.aload_n 0, 1) := by decide +kernel
theorem dX9_keepsFrom_84 : decode cX9_keepsFrom 84 = .ok (.getfield 56, 3) := by decide +kernel
theorem dX9_keepsFrom_87 : decode cX9_keepsFrom 87 = .ok (.iload 6, 2) := by decide +kernel
theorem dX9_keepsFrom_89 : decode cX9_keepsFrom 89 = .ok (.iaload, 1) := by decide +kernel
theorem dX9_keepsFrom_90 : decode cX9_keepsFrom 90 = .ok (.iload 8, 2) := by decide +kernel
theorem dX9_keepsFrom_92 : decode cX9_keepsFrom 92 = .ok (.iadd, 1) := by decide +kernel
theorem dX9_keepsFrom_93 : decode cX9_keepsFrom 93 = .ok (.iload 5, 2) := by decide +kernel
theorem dX9_keepsFrom_95 : decode cX9_keepsFrom 95 = .ok (.isub, 1) := by decide +kernel
theorem dX9_keepsFrom_96 : decode cX9_keepsFrom 96 = .ok (.aload_n 0, 1) := by decide +kernel
theorem dX9_keepsFrom_97 : decode cX9_keepsFrom 97 = .ok (.getfield 56, 3) := by decide +kernel
theorem dX9_keepsFrom_100 : decode cX9_keepsFrom 100 = .ok (.iload 6, 2) := by decide +kernel
theorem dX9_keepsFrom_102 : decode cX9_keepsFrom 102 = .ok (.iaload, 1) := by decide +kernel
theorem dX9_keepsFrom_103 : decode cX9_keepsFrom 103 = .ok (.iload 9, 2) := by decide +kernel
theorem dX9_keepsFrom_105 : decode cX9_keepsFrom 105 = .ok (.iadd, 1) := by decide +kernel
theorem dX9_keepsFrom_106 : decode cX9_keepsFrom 106 = .ok (.iload 5, 2) := by decide +kernel
theorem dX9_keepsFrom_108 : decode cX9_keepsFrom 108 = .ok (.isub, 1) := by decide +kernel
theorem dX9_keepsFrom_109 : decode cX9_keepsFrom 109 = .ok (.iconst 1, 1) := by decide +kernel
theorem dX9_keepsFrom_110 : decode cX9_keepsFrom 110 = .ok (.isub, 1) := by decide +kernel
theorem dX9_keepsFrom_111 : decode cX9_keepsFrom 111 = .ok (.invokevirtual 272, 3) := by decide +kernel
theorem dX9_keepsFrom_114 : decode cX9_keepsFrom 114 = .ok (.goto 68, 3) := by decide +kernel
theorem dX9_keepsFrom_117 : decode cX9_keepsFrom 117 = .ok (.iload 5, 2) := by decide +kernel
theorem dX9_keepsFrom_119 : decode cX9_keepsFrom 119 = .ok (.iload_n 1, 1) := by decide +kernel
theorem dX9_keepsFrom_120 : decode cX9_keepsFrom 120 = .ok (.if_icmp .lt 62, 3) := by decide +kernel
theorem dX9_keepsFrom_123 : decode cX9_keepsFrom 123 = .ok (.iload 5, 2) := by decide +kernel
theorem dX9_keepsFrom_125 : decode cX9_keepsFrom 125 = .ok (.iload_n 2, 1) := by decide +kernel
theorem dX9_keepsFrom_126 : decode cX9_keepsFrom 126 = .ok (.if_icmp .gt 56, 3) := by decide +kernel
theorem dX9_keepsFrom_129 : decode cX9_keepsFrom 129 = .ok (.aload_n 0, 1) := by decide +kernel
theorem dX9_keepsFrom_130 : decode cX9_keepsFrom 130 = .ok (.getfield 50, 3) := by decide +kernel
theorem dX9_keepsFrom_133 : decode cX9_keepsFrom 133 = .ok (.iload 6, 2) := by decide +kernel
theorem dX9_keepsFrom_135 : decode cX9_keepsFrom 135 = .ok (.iaload, 1) := by decide +kernel
theorem dX9_keepsFrom_136 : decode cX9_keepsFrom 136 = .ok (.iconst 2, 1) := by decide +kernel
theorem dX9_keepsFrom_137 : decode cX9_keepsFrom 137 = .ok (.if_icmp .eq 9, 3) := by decide +kernel
theorem dX9_keepsFrom_140 : decode cX9_keepsFrom 140 = .ok (.iload 5, 2) := by decide +kernel
theorem dX9_keepsFrom_142 : decode cX9_keepsFrom 142 = .ok (.iload_n 3, 1) := by decide +kernel
theorem dX9_keepsFrom_143 : decode cX9_keepsFrom 143 = .ok (.if_icmp .eq 39, 3) := by decide +kernel
theorem dX9_keepsFrom_146 : decode cX9_keepsFrom 146 = .ok (.iload 4, 2) := by decide +kernel
theorem dX9_keepsFrom_148 : decode cX9_keepsFrom 148 = .ok (.ifCond .ne 20, 3) := by decide +kernel
theorem dX9_keepsFrom_151 : decode cX9_keepsFrom 151 = .ok (.iload 5, 2) := by decide +kernel
theorem dX9_keepsFrom_153 : decode cX9_keepsFrom 153 = .ok (.iload_n 1, 1) := by decide +kernel
theorem dX9_keepsFrom_154 : decode cX9_keepsFrom 154 = .ok (.if_icmp .gt 14, 3) := by decide +kernel
theorem dX9_keepsFrom_157 : decode cX9_keepsFrom 157 = .ok (.aload_n 0, 1) := by decide +kernel
theorem dX9_keepsFrom_158 : decode cX9_keepsFrom 158 = .ok (.getfield 50, 3) := by decide +kernel
theorem dX9_keepsFrom_161 : decode cX9_keepsFrom 161 = .ok (.iload 6, 2) := by decide +kernel
theorem dX9_keepsFrom_163 : decode cX9_keepsFrom 163 = .ok (.iaload, 1) := by decide +kernel
theorem dX9_keepsFrom_164 : decode cX9_keepsFrom 164 = .ok (.iconst 2, 1) := by decide +kernel
theorem dX9_keepsFrom_165 : decode cX9_keepsFrom 165 = .ok (.if_icmp .ne 17, 3) := by decide +kernel
theorem dX9_keepsFrom_168 : decode cX9_keepsFrom 168 = .ok (.aload_n 0, 1) := by decide +kernel
theorem dX9_keepsFrom_169 : decode cX9_keepsFrom 169 = .ok (.aload_n 0, 1) := by decide +kernel
theorem dX9_keepsFrom_170 : decode cX9_keepsFrom 170 = .ok (.getfield 50, 3) := by decide +kernel
theorem dX9_keepsFrom_173 : decode cX9_keepsFrom 173 = .ok (.iload 6, 2) := by decide +kernel
theorem dX9_keepsFrom_175 : decode cX9_keepsFrom 175 = .ok (.iaload, 1) := by decide +kernel
theorem dX9_keepsFrom_176 : decode cX9_keepsFrom 176 = .ok (.iconst (-1), 1) := by decide +kernel
theorem dX9_keepsFrom_177 : decode cX9_keepsFrom 177 = .ok (.iconst (-1), 1) := by decide +kernel
theorem dX9_keepsFrom_178 : decode cX9_keepsFrom 178 = .ok (.iconst (-1), 1) := by decide +kernel
theorem dX9_keepsFrom_179 : decode cX9_keepsFrom 179 = .ok (.invokevirtual 272, 3) := by decide +kernel
theorem dX9_keepsFrom_182 : decode cX9_keepsFrom 182 = .ok (.iload 5, 2) := by decide +kernel
theorem dX9_keepsFrom_184 : decode cX9_keepsFrom 184 = .ok (.iload 7, 2) := by decide +kernel
theorem dX9_keepsFrom_186 : decode cX9_keepsFrom 186 = .ok (.iadd, 1) := by decide +kernel
theorem dX9_keepsFrom_187 : decode cX9_keepsFrom 187 = .ok (.istore 5, 2) := by decide +kernel
theorem dX9_keepsFrom_189 : decode cX9_keepsFrom 189 = .ok (.iinc 6 1, 3) := by decide +kernel
theorem dX9_keepsFrom_192 : decode cX9_keepsFrom 192 = .ok (.goto (-186), 3) := by decide +kernel
theorem dX9_keepsFrom_195 : decode cX9_keepsFrom 195 = .ok (.return_, 1) := by decide +kernel
theorem dX9_canMend_0 : decode cX9_canMend 0 = .ok (.aload_n 0, 1) := by decide +kernel
theorem dX9_canMend_1 : decode cX9_canMend 1 = .ok (.invokevirtual 207, 3) := by decide +kernel
theorem dX9_canMend_4 : decode cX9_canMend 4 = .ok (.ifCond .eq 46, 3) := by decide +kernel
theorem dX9_canMend_7 : decode cX9_canMend 7 = .ok (.aload_n 0, 1) := by decide +kernel
theorem dX9_canMend_8 : decode cX9_canMend 8 = .ok (.invokevirtual 149, 3) := by decide +kernel
theorem dX9_canMend_11 : decode cX9_canMend 11 = .ok (.ifCond .ne 10, 3) := by decide +kernel
theorem dX9_canMend_14 : decode cX9_canMend 14 = .ok (.aload_n 0, 1) := by decide +kernel
theorem dX9_canMend_15 : decode cX9_canMend 15 = .ok (.getfield 153, 3) := by decide +kernel
theorem dX9_canMend_18 : decode cX9_canMend 18 = .ok (.ifCond .eq 32, 3) := by decide +kernel
theorem dX9_canMend_21 : decode cX9_canMend 21 = .ok (.iload_n 1, 1) := by decide +kernel
theorem dX9_canMend_22 : decode cX9_canMend 22 = .ok (.aload_n 0, 1) := by decide +kernel
theorem dX9_canMend_23 : decode cX9_canMend 23 = .ok (.getfield 135, 3) := by decide +kernel
theorem dX9_canMend_26 : decode cX9_canMend 26 = .ok (.if_icmp .ge 24, 3) := by decide +kernel
theorem dX9_canMend_29 : decode cX9_canMend 29 = .ok (.aload_n 0, 1) := by decide +kernel
theorem dX9_canMend_30 : decode cX9_canMend 30 = .ok (.getfield 153, 3) := by decide +kernel
theorem dX9_canMend_33 : decode cX9_canMend 33 = .ok (.ifCond .eq 13, 3) := by decide +kernel
theorem dX9_canMend_36 : decode cX9_canMend 36 = .ok (.iload_n 1, 1) := by decide +kernel
theorem dX9_canMend_37 : decode cX9_canMend 37 = .ok (.aload_n 0, 1) := by decide +kernel
theorem dX9_canMend_38 : decode cX9_canMend 38 = .ok (.getfield 135, 3) := by decide +kernel
theorem dX9_canMend_41 : decode cX9_canMend 41 = .ok (.iconst 1, 1) := by decide +kernel
theorem dX9_canMend_42 : decode cX9_canMend 42 = .ok (.isub, 1) := by decide +kernel
theorem dX9_canMend_43 : decode cX9_canMend 43 = .ok (.if_icmp .eq 7, 3) := by decide +kernel
theorem dX9_canMend_46 : decode cX9_canMend 46 = .ok (.iconst 1, 1) := by decide +kernel
theorem dX9_canMend_47 : decode cX9_canMend 47 = .ok (.goto 4, 3) := by decide +kernel
theorem dX9_canMend_50 : decode cX9_canMend 50 = .ok (.iconst 0, 1) := by decide +kernel
theorem dX9_canMend_51 : decode cX9_canMend 51 = .ok (.istore_n 3, 1) := by decide +kernel
theorem dX9_canMend_52 : decode cX9_canMend 52 = .ok (.iload_n 3, 1) := by decide +kernel
theorem dX9_canMend_53 : decode cX9_canMend 53 = .ok (.ifCond .eq 25, 3) := by decide +kernel
theorem dX9_canMend_56 : decode cX9_canMend 56 = .ok (.aload_n 0, 1) := by decide +kernel
theorem dX9_canMend_57 : decode cX9_canMend 57 = .ok (.iload_n 2, 1) := by decide +kernel
theorem dX9_canMend_58 : decode cX9_canMend 58 = .ok (.aload_n 0, 1) := by decide +kernel
theorem dX9_canMend_59 : decode cX9_canMend 59 = .ok (.getfield 74, 3) := by decide +kernel
theorem dX9_canMend_62 : decode cX9_canMend 62 = .ok (.iload_n 1, 1) := by decide +kernel
theorem dX9_canMend_63 : decode cX9_canMend 63 = .ok (.iaload, 1) := by decide +kernel
theorem dX9_canMend_64 : decode cX9_canMend 64 = .ok (.iconst 2, 1) := by decide +kernel
theorem dX9_canMend_65 : decode cX9_canMend 65 = .ok (.aload_n 0, 1) := by decide +kernel
theorem dX9_canMend_66 : decode cX9_canMend 66 = .ok (.iload_n 1, 1) := by decide +kernel
theorem dX9_canMend_67 : decode cX9_canMend 67 = .ok (.invokevirtual 127, 3) := by decide +kernel
theorem dX9_canMend_70 : decode cX9_canMend 70 = .ok (.imul, 1) := by decide +kernel
theorem dX9_canMend_71 : decode cX9_canMend 71 = .ok (.iadd, 1) := by decide +kernel
theorem dX9_canMend_72 : decode cX9_canMend 72 = .ok (.invokevirtual 213, 3) := by decide +kernel
theorem dX9_canMend_75 : decode cX9_canMend 75 = .ok (.ifCond .ne 5, 3) := by decide +kernel
theorem dX9_canMend_78 : decode cX9_canMend 78 = .ok (.iconst 0, 1) := by decide +kernel
theorem dX9_canMend_79 : decode cX9_canMend 79 = .ok (.ireturn, 1) := by decide +kernel
theorem dX9_canMend_80 : decode cX9_canMend 80 = .ok (.aload_n 0, 1) := by decide +kernel
theorem dX9_canMend_81 : decode cX9_canMend 81 = .ok (.iload_n 1, 1) := by decide +kernel
theorem dX9_canMend_82 : decode cX9_canMend 82 = .ok (.invokevirtual 266, 3) := by decide +kernel
theorem dX9_canMend_85 : decode cX9_canMend 85 = .ok (.istore 4, 2) := by decide +kernel
theorem dX9_canMend_87 : decode cX9_canMend 87 = .ok (.aload_n 0, 1) := by decide +kernel
theorem dX9_canMend_88 : decode cX9_canMend 88 = .ok (.iload 4, 2) := by decide +kernel
theorem dX9_canMend_90 : decode cX9_canMend 90 = .ok (.ifCond .ne 7, 3) := by decide +kernel
theorem dX9_canMend_93 : decode cX9_canMend 93 = .ok (.iconst (-1), 1) := by decide +kernel
theorem dX9_canMend_94 : decode cX9_canMend 94 = .ok (.goto 11, 3) := by decide +kernel
theorem dX9_canMend_97 : decode cX9_canMend 97 = .ok (.aload_n 0, 1) := by decide +kernel
theorem dX9_canMend_98 : decode cX9_canMend 98 = .ok (.iload 4, 2) := by decide +kernel
theorem dX9_canMend_100 : decode cX9_canMend 100 = .ok (.iconst 1, 1) := by decide +kernel
theorem dX9_canMend_101 : decode cX9_canMend 101 = .ok (.isub, 1) := by decide +kernel
theorem dX9_canMend_102 : decode cX9_canMend 102 = .ok (.invokevirtual 200, 3) := by decide +kernel
theorem dX9_canMend_105 : decode cX9_canMend 105 = .ok (.aload_n 0, 1) := by decide +kernel
theorem dX9_canMend_106 : decode cX9_canMend 106 = .ok (.iload 4, 2) := by decide +kernel
theorem dX9_canMend_108 : decode cX9_canMend 108 = .ok (.aload_n 0, 1) := by decide +kernel
theorem dX9_canMend_109 : decode cX9_canMend 109 = .ok (.getfield 74, 3) := by decide +kernel
theorem dX9_canMend_112 : decode cX9_canMend 112 = .ok (.iload_n 1, 1) := by decide +kernel
theorem dX9_canMend_113 : decode cX9_canMend 113 = .ok (.iaload, 1) := by decide +kernel
theorem dX9_canMend_114 : decode cX9_canMend 114 = .ok (.iadd, 1) := by decide +kernel
theorem dX9_canMend_115 : decode cX9_canMend 115 = .ok (.invokevirtual 200, 3) := by decide +kernel
theorem dX9_canMend_118 : decode cX9_canMend 118 = .ok (.invokevirtual 223, 3) := by decide +kernel
theorem dX9_canMend_121 : decode cX9_canMend 121 = .ok (.ireturn, 1) := by decide +kernel
theorem dX9_mend_0 : decode cX9_mend 0 = .ok (.iload_n 1, 1) := by decide +kernel
theorem dX9_mend_1 : decode cX9_mend 1 = .ok (.invokestatic 131, 3) := by decide +kernel
theorem dX9_mend_4 : decode cX9_mend 4 = .ok (.ifCond .eq 16, 3) := by decide +kernel
theorem dX9_mend_7 : decode cX9_mend 7 = .ok (.iload_n 2, 1) := by decide +kernel
theorem dX9_mend_8 : decode cX9_mend 8 = .ok (.iconst 0, 1) := by decide +kernel
theorem dX9_mend_9 : decode cX9_mend 9 = .ok (.iconst 2, 1) := by decide +kernel
theorem dX9_mend_10 : decode cX9_mend 10 = .ok (.invokestatic 123, 3) := by decide +kernel
theorem dX9_mend_13 : decode cX9_mend 13 = .ok (.ifCond .eq 7, 3) := by decide +kernel
theorem dX9_mend_16 : decode cX9_mend 16 = .ok (.iconst 1, 1) := by decide +kernel
theorem dX9_mend_17 : decode cX9_mend 17 = .ok (.goto 4, 3) := by decide +kernel
theorem dX9_mend_20 : decode cX9_mend 20 = .ok (.iconst 0, 1) := by decide +kernel
theorem dX9_mend_21 : decode cX9_mend 21 = .ok (.istore_n 3, 1) := by decide +kernel
theorem dX9_mend_22 : decode cX9_mend 22 = .ok (.aload_n 0, 1) := by decide +kernel
theorem dX9_mend_23 : decode cX9_mend 23 = .ok (.iload_n 3, 1) := by decide +kernel
theorem dX9_mend_24 : decode cX9_mend 24 = .ok (.ifCond .ne 7, 3) := by decide +kernel
theorem dX9_mend_27 : decode cX9_mend 27 = .ok (.iconst 1, 1) := by decide +kernel
theorem dX9_mend_28 : decode cX9_mend 28 = .ok (.goto 17, 3) := by decide +kernel
theorem dX9_mend_31 : decode cX9_mend 31 = .ok (.aload_n 0, 1) := by decide +kernel
theorem dX9_mend_32 : decode cX9_mend 32 = .ok (.iload_n 1, 1) := by decide +kernel
theorem dX9_mend_33 : decode cX9_mend 33 = .ok (.iload_n 2, 1) := by decide +kernel
theorem dX9_mend_34 : decode cX9_mend 34 = .ok (.invokevirtual 275, 3) := by decide +kernel
theorem dX9_mend_37 : decode cX9_mend 37 = .ok (.ifCond .eq 7, 3) := by decide +kernel
theorem dX9_mend_40 : decode cX9_mend 40 = .ok (.iconst 0, 1) := by decide +kernel
theorem dX9_mend_41 : decode cX9_mend 41 = .ok (.goto 4, 3) := by decide +kernel
theorem dX9_mend_44 : decode cX9_mend 44 = .ok (.iconst 2, 1) := by decide +kernel
theorem dX9_mend_45 : decode cX9_mend 45 = .ok (.putfield 120, 3) := by decide +kernel
theorem dX9_mend_48 : decode cX9_mend 48 = .ok (.aload_n 0, 1) := by decide +kernel
theorem dX9_mend_49 : decode cX9_mend 49 = .ok (.getfield 120, 3) := by decide +kernel
theorem dX9_mend_52 : decode cX9_mend 52 = .ok (.ifCond .le 5, 3) := by decide +kernel
theorem dX9_mend_55 : decode cX9_mend 55 = .ok (.iconst 0, 1) := by decide +kernel
theorem dX9_mend_56 : decode cX9_mend 56 = .ok (.ireturn, 1) := by decide +kernel
theorem dX9_mend_57 : decode cX9_mend 57 = .ok (.aload_n 0, 1) := by decide +kernel
theorem dX9_mend_58 : decode cX9_mend 58 = .ok (.iload_n 1, 1) := by decide +kernel
theorem dX9_mend_59 : decode cX9_mend 59 = .ok (.invokevirtual 266, 3) := by decide +kernel
theorem dX9_mend_62 : decode cX9_mend 62 = .ok (.istore 4, 2) := by decide +kernel
theorem dX9_mend_64 : decode cX9_mend 64 = .ok (.iload 4, 2) := by decide +kernel
theorem dX9_mend_66 : decode cX9_mend 66 = .ok (.aload_n 0, 1) := by decide +kernel
theorem dX9_mend_67 : decode cX9_mend 67 = .ok (.getfield 74, 3) := by decide +kernel
theorem dX9_mend_70 : decode cX9_mend 70 = .ok (.iload_n 1, 1) := by decide +kernel
theorem dX9_mend_71 : decode cX9_mend 71 = .ok (.iaload, 1) := by decide +kernel
theorem dX9_mend_72 : decode cX9_mend 72 = .ok (.iadd, 1) := by decide +kernel
theorem dX9_mend_73 : decode cX9_mend 73 = .ok (.istore 5, 2) := by decide +kernel
theorem dX9_mend_75 : decode cX9_mend 75 = .ok (.iconst 2, 1) := by decide +kernel
theorem dX9_mend_76 : decode cX9_mend 76 = .ok (.aload_n 0, 1) := by decide +kernel
theorem dX9_mend_77 : decode cX9_mend 77 = .ok (.iload_n 1, 1) := by decide +kernel
theorem dX9_mend_78 : decode cX9_mend 78 = .ok (.invokevirtual 127, 3) := by decide +kernel
theorem dX9_mend_81 : decode cX9_mend 81 = .ok (.imul, 1) := by decide +kernel
theorem dX9_mend_82 : decode cX9_mend 82 = .ok (.istore 6, 2) := by decide +kernel
theorem dX9_mend_84 : decode cX9_mend 84 = .ok (.aload_n 0, 1) := by decide +kernel
theorem dX9_mend_85 : decode cX9_mend 85 = .ok (.invokevirtual 160, 3) := by decide +kernel
theorem dX9_mend_88 : decode cX9_mend 88 = .ok (.istore 7, 2) := by decide +kernel
theorem dX9_mend_90 : decode cX9_mend 90 = .ok (.aload_n 0, 1) := by decide +kernel
theorem dX9_mend_91 : decode cX9_mend 91 = .ok (.iload_n 2, 1) := by decide +kernel
theorem dX9_mend_92 : decode cX9_mend 92 = .ok (.invokevirtual 226, 3) := by decide +kernel
theorem dX9_mend_95 : decode cX9_mend 95 = .ok (.aload_n 0, 1) := by decide +kernel
theorem dX9_mend_96 : decode cX9_mend 96 = .ok (.iconst 0, 1) := by decide +kernel
theorem dX9_mend_97 : decode cX9_mend 97 = .ok (.putfield 269, 3) := by decide +kernel
theorem dX9_mend_100 : decode cX9_mend 100 = .ok (.aload_n 0, 1) := by decide +kernel
theorem dX9_mend_101 : decode cX9_mend 101 = .ok (.iconst 0, 1) := by decide +kernel
theorem dX9_mend_102 : decode cX9_mend 102 = .ok (.iload 4, 2) := by decide +kernel
theorem dX9_mend_104 : decode cX9_mend 104 = .ok (.iload 4, 2) := by decide +kernel
theorem dX9_mend_106 : decode cX9_mend 106 = .ok (.iconst 1, 1) := by decide +kernel
theorem dX9_mend_107 : decode cX9_mend 107 = .ok (.invokevirtual 278, 3) := by decide +kernel
theorem dX9_mend_110 : decode cX9_mend 110 = .ok (.aload_n 0, 1) := by decide +kernel
theorem dX9_mend_111 : decode cX9_mend 111 = .ok (.iconst 1, 1) := by decide +kernel
theorem dX9_mend_112 : decode cX9_mend 112 = .ok (.iconst (-1), 1) := by decide +kernel
theorem dX9_mend_113 : decode cX9_mend 113 = .ok (.iconst (-1), 1) := by decide +kernel
theorem dX9_mend_114 : decode cX9_mend 114 = .ok (.iconst (-1), 1) := by decide +kernel
theorem dX9_mend_115 : decode cX9_mend 115 = .ok (.invokevirtual 272, 3) := by decide +kernel
theorem dX9_mend_118 : decode cX9_mend 118 = .ok (.iconst 0, 1) := by decide +kernel
theorem dX9_mend_119 : decode cX9_mend 119 = .ok (.istore 8, 2) := by decide +kernel
theorem dX9_mend_121 : decode cX9_mend 121 = .ok (.iload 8, 2) := by decide +kernel
theorem dX9_mend_123 : decode cX9_mend 123 = .ok (.aload_n 0, 1) := by decide +kernel
theorem dX9_mend_124 : decode cX9_mend 124 = .ok (.getfield 193, 3) := by decide +kernel
theorem dX9_mend_127 : decode cX9_mend 127 = .ok (.if_icmp .ge 48, 3) := by decide +kernel
theorem dX9_mend_130 : decode cX9_mend 130 = .ok (.iload 8, 2) := by decide +kernel
theorem dX9_mend_132 : decode cX9_mend 132 = .ok (.ifCond .le 11, 3) := by decide +kernel
theorem dX9_mend_135 : decode cX9_mend 135 = .ok (.aload_n 0, 1) := by decide +kernel
theorem dX9_mend_136 : decode cX9_mend 136 = .ok (.iconst 1, 1) := by decide +kernel
theorem dX9_mend_137 : decode cX9_mend 137 = .ok (.iconst (-1), 1) := by decide +kernel
theorem dX9_mend_138 : decode cX9_mend 138 = .ok (.iconst (-1), 1) := by decide +kernel
theorem dX9_mend_139 : decode cX9_mend 139 = .ok (.iconst (-1), 1) := by decide +kernel
theorem dX9_mend_140 : decode cX9_mend 140 = .ok (.invokevirtual 272, 3) := by decide +kernel
theorem dX9_mend_143 : decode cX9_mend 143 = .ok (.aload_n 0, 1) := by decide +kernel
theorem dX9_mend_144 : decode cX9_mend 144 = .ok (.iconst 0, 1) := by decide +kernel
theorem dX9_mend_145 : decode cX9_mend 145 = .ok (.aload_n 0, 1) := by decide +kernel
theorem dX9_mend_146 : decode cX9_mend 146 = .ok (.getfield 41, 3) := by decide +kernel
theorem dX9_mend_149 : decode cX9_mend 149 = .ok (.iload 8, 2) := by decide +kernel
theorem dX9_mend_151 : decode cX9_mend 151 = .ok (.iaload, 1) := by decide +kernel
theorem dX9_mend_152 : decode cX9_mend 152 = .ok (.aload_n 0, 1) := by decide +kernel
theorem dX9_mend_153 : decode cX9_mend 153 = .ok (.getfield 44, 3) := by decide +kernel
theorem dX9_mend_156 : decode cX9_mend 156 = .ok (.iload 8, 2) := by decide +kernel
theorem dX9_mend_158 : decode cX9_mend 158 = .ok (.iaload, 1) := by decide +kernel
theorem dX9_mend_159 : decode cX9_mend 159 = .ok (.aload_n 0, 1) := by decide +kernel
theorem dX9_mend_160 : decode cX9_mend 160 = .ok (.getfield 47, 3) := by decide +kernel
theorem dX9_mend_163 : decode cX9_mend 163 = .ok (.iload 8, 2) := by decide +kernel
theorem dX9_mend_165 : decode cX9_mend 165 = .ok (.iaload, 1) := by decide +kernel
theorem dX9_mend_166 : decode cX9_mend 166 = .ok (.invokevirtual 272, 3) := by decide +kernel
theorem dX9_mend_169 : decode cX9_mend 169 = .ok (.iinc 8 1, 3) := by decide +kernel
theorem dX9_mend_172 : decode cX9_mend 172 = .ok (.goto (-51), 3) := by decide +kernel
theorem dX9_mend_175 : decode cX9_mend 175 = .ok (.aload_n 0, 1) := by decide +kernel
theorem dX9_mend_176 : decode cX9_mend 176 = .ok (.iconst 1, 1) := by decide +kernel
theorem dX9_mend_177 : decode cX9_mend 177 = .ok (.iconst (-1), 1) := by decide +kernel
theorem dX9_mend_178 : decode cX9_mend 178 = .ok (.iconst (-1), 1) := by decide +kernel
theorem dX9_mend_179 : decode cX9_mend 179 = .ok (.iconst (-1), 1) := by decide +kernel
theorem dX9_mend_180 : decode cX9_mend 180 = .ok (.invokevirtual 272, 3) := by decide +kernel
theorem dX9_mend_183 : decode cX9_mend 183 = .ok (.aload_n 0, 1) := by decide +kernel
theorem dX9_mend_184 : decode cX9_mend 184 = .ok (.iload 5, 2) := by decide +kernel
theorem dX9_mend_186 : decode cX9_mend 186 = .ok (.iload 7, 2) := by decide +kernel
theorem dX9_mend_188 : decode cX9_mend 188 = .ok (.iload 5, 2) := by decide +kernel
theorem dX9_mend_190 : decode cX9_mend 190 = .ok (.iconst 0, 1) := by decide +kernel
theorem dX9_mend_191 : decode cX9_mend 191 = .ok (.invokevirtual 278, 3) := by decide +kernel
theorem dX9_mend_194 : decode cX9_mend 194 = .ok (.iconst 0, 1) := by decide +kernel
theorem dX9_mend_195 : decode cX9_mend 195 = .ok (.istore 8, 2) := by decide +kernel
theorem dX9_mend_197 : decode cX9_mend 197 = .ok (.iload 8, 2) := by decide +kernel
theorem dX9_mend_199 : decode cX9_mend 199 = .ok (.aload_n 0, 1) := by decide +kernel
theorem dX9_mend_200 : decode cX9_mend 200 = .ok (.getfield 269, 3) := by decide +kernel
theorem dX9_mend_203 : decode cX9_mend 203 = .ok (.if_icmp .ge 65, 3) := by decide +kernel
theorem dX9_mend_206 : decode cX9_mend 206 = .ok (.aload_n 0, 1) := by decide +kernel
theorem dX9_mend_207 : decode cX9_mend 207 = .ok (.getfield 50, 3) := by decide +kernel
theorem dX9_mend_210 : decode cX9_mend 210 = .ok (.iload 8, 2) := by decide +kernel
theorem dX9_mend_212 : decode cX9_mend 212 = .ok (.aload_n 0, 1) := by decide +kernel
theorem dX9_mend_213 : decode cX9_mend 213 = .ok (.getfield 62, 3) := by decide +kernel
theorem dX9_mend_216 : decode cX9_mend 216 = .ok (.iload 8, 2) := by decide +kernel
theorem dX9_mend_218 : decode cX9_mend 218 = .ok (.iaload, 1) := by decide +kernel
theorem dX9_mend_219 : decode cX9_mend 219 = .ok (.iastore, 1) := by decide +kernel
theorem dX9_mend_220 : decode cX9_mend 220 = .ok (.aload_n 0, 1) := by decide +kernel
theorem dX9_mend_221 : decode cX9_mend 221 = .ok (.getfield 53, 3) := by decide +kernel
theorem dX9_mend_224 : decode cX9_mend 224 = .ok (.iload 8, 2) := by decide +kernel
theorem dX9_mend_226 : decode cX9_mend 226 = .ok (.aload_n 0, 1) := by decide +kernel
theorem dX9_mend_227 : decode cX9_mend 227 = .ok (.getfield 65, 3) := by decide +kernel
theorem dX9_mend_230 : decode cX9_mend 230 = .ok (.iload 8, 2) := by decide +kernel
theorem dX9_mend_232 : decode cX9_mend 232 = .ok (.iaload, 1) := by decide +kernel
theorem dX9_mend_233 : decode cX9_mend 233 = .ok (.iastore, 1) := by decide +kernel
theorem dX9_mend_234 : decode cX9_mend 234 = .ok (.aload_n 0, 1) := by decide +kernel
theorem dX9_mend_235 : decode cX9_mend 235 = .ok (.getfield 56, 3) := by decide +kernel
theorem dX9_mend_238 : decode cX9_mend 238 = .ok (.iload 8, 2) := by decide +kernel
theorem dX9_mend_240 : decode cX9_mend 240 = .ok (.aload_n 0, 1) := by decide +kernel
theorem dX9_mend_241 : decode cX9_mend 241 = .ok (.getfield 68, 3) := by decide +kernel
theorem dX9_mend_244 : decode cX9_mend 244 = .ok (.iload 8, 2) := by decide +kernel
theorem dX9_mend_246 : decode cX9_mend 246 = .ok (.iaload, 1) := by decide +kernel
theorem dX9_mend_247 : decode cX9_mend 247 = .ok (.iastore, 1) := by decide +kernel
theorem dX9_mend_248 : decode cX9_mend 248 = .ok (.aload_n 0, 1) := by decide +kernel
theorem dX9_mend_249 : decode cX9_mend 249 = .ok (.getfield 59, 3) := by decide +kernel
theorem dX9_mend_252 : decode cX9_mend 252 = .ok (.iload 8, 2) := by decide +kernel
theorem dX9_mend_254 : decode cX9_mend 254 = .ok (.aload_n 0, 1) := by decide +kernel
theorem dX9_mend_255 : decode cX9_mend 255 = .ok (.getfield 71, 3) := by decide +kernel
theorem dX9_mend_258 : decode cX9_mend 258 = .ok (.iload 8, 2) := by decide +kernel
theorem dX9_mend_260 : decode cX9_mend 260 = .ok (.iaload, 1) := by decide +kernel
theorem dX9_mend_261 : decode cX9_mend 261 = .ok (.iastore, 1) := by decide +kernel
theorem dX9_mend_262 : decode cX9_mend 262 = .ok (.iinc 8 1, 3) := by decide +kernel
theorem dX9_mend_265 : decode cX9_mend 265 = .ok (.goto (-68), 3) := by decide +kernel
theorem dX9_mend_268 : decode cX9_mend 268 = .ok (.aload_n 0, 1) := by decide +kernel
theorem dX9_mend_269 : decode cX9_mend 269 = .ok (.aload_n 0, 1) := by decide +kernel
theorem dX9_mend_270 : decode cX9_mend 270 = .ok (.getfield 269, 3) := by decide +kernel
theorem dX9_mend_273 : decode cX9_mend 273 = .ok (.putfield 171, 3) := by decide +kernel
theorem dX9_mend_276 : decode cX9_mend 276 = .ok (.aload_n 0, 1) := by decide +kernel
theorem dX9_mend_277 : decode cX9_mend 277 = .ok (.dup, 1) := by decide +kernel
theorem dX9_mend_278 : decode cX9_mend 278 = .ok (.getfield 167, 3) := by decide +kernel
theorem dX9_mend_281 : decode cX9_mend 281 = .ok (.iload 5, 2) := by decide +kernel
theorem dX9_mend_283 : decode cX9_mend 283 = .ok (.iload 4, 2) := by decide +kernel
theorem dX9_mend_285 : decode cX9_mend 285 = .ok (.isub, 1) := by decide +kernel
theorem dX9_mend_286 : decode cX9_mend 286 = .ok (.i2l, 1) := by decide +kernel
theorem dX9_mend_287 : decode cX9_mend 287 = .ok (.ladd, 1) := by decide +kernel
theorem dX9_mend_288 : decode cX9_mend 288 = .ok (.putfield 167, 3) := by decide +kernel
theorem dX9_mend_291 : decode cX9_mend 291 = .ok (.aload_n 0, 1) := by decide +kernel
theorem dX9_mend_292 : decode cX9_mend 292 = .ok (.getfield 74, 3) := by decide +kernel
theorem dX9_mend_295 : decode cX9_mend 295 = .ok (.iload_n 1, 1) := by decide +kernel
theorem dX9_mend_296 : decode cX9_mend 296 = .ok (.dup2, 1) := by decide +kernel
theorem dX9_mend_297 : decode cX9_mend 297 = .ok (.iaload, 1) := by decide +kernel
theorem dX9_mend_298 : decode cX9_mend 298 = .ok (.iload 6, 2) := by decide +kernel
theorem dX9_mend_300 : decode cX9_mend 300 = .ok (.iadd, 1) := by decide +kernel
theorem dX9_mend_301 : decode cX9_mend 301 = .ok (.iastore, 1) := by decide +kernel
theorem dX9_mend_302 : decode cX9_mend 302 = .ok (.aload_n 0, 1) := by decide +kernel
theorem dX9_mend_303 : decode cX9_mend 303 = .ok (.aload_n 0, 1) := by decide +kernel
theorem dX9_mend_304 : decode cX9_mend 304 = .ok (.getfield 139, 3) := by decide +kernel
theorem dX9_mend_307 : decode cX9_mend 307 = .ok (.iconst 3, 1) := by decide +kernel
theorem dX9_mend_308 : decode cX9_mend 308 = .ok (.iadd, 1) := by decide +kernel
theorem dX9_mend_309 : decode cX9_mend 309 = .ok (.aload_n 0, 1) := by decide +kernel
theorem dX9_mend_310 : decode cX9_mend 310 = .ok (.iload_n 1, 1) := by decide +kernel
theorem dX9_mend_311 : decode cX9_mend 311 = .ok (.invokevirtual 127, 3) := by decide +kernel
theorem dX9_mend_314 : decode cX9_mend 314 = .ok (.sipush 1000, 3) := by decide +kernel
theorem dX9_mend_317 : decode cX9_mend 317 = .ok (.idiv, 1) := by decide +kernel
theorem dX9_mend_318 : decode cX9_mend 318 = .ok (.iadd, 1) := by decide +kernel
theorem dX9_mend_319 : decode cX9_mend 319 = .ok (.putfield 183, 3) := by decide +kernel
theorem dX9_mend_322 : decode cX9_mend 322 = .ok (.aload_n 0, 1) := by decide +kernel
theorem dX9_mend_323 : decode cX9_mend 323 = .ok (.iload 4, 2) := by decide +kernel
theorem dX9_mend_325 : decode cX9_mend 325 = .ok (.iload 5, 2) := by decide +kernel
theorem dX9_mend_327 : decode cX9_mend 327 = .ok (.iload 6, 2) := by decide +kernel
theorem dX9_mend_329 : decode cX9_mend 329 = .ok (.invokevirtual 282, 3) := by decide +kernel
theorem dX9_mend_332 : decode cX9_mend 332 = .ok (.ireturn, 1) := by decide +kernel
theorem dX9_mendsFaults_0 : decode cX9_mendsFaults 0 = .ok (.iconst 0, 1) := by decide +kernel
theorem dX9_mendsFaults_1 : decode cX9_mendsFaults 1 = .ok (.istore 4, 2) := by decide +kernel
theorem dX9_mendsFaults_3 : decode cX9_mendsFaults 3 = .ok (.iconst 0, 1) := by decide +kernel
theorem dX9_mendsFaults_4 : decode cX9_mendsFaults 4 = .ok (.istore 5, 2) := by decide +kernel
theorem dX9_mendsFaults_6 : decode cX9_mendsFaults 6 = .ok (.iload 5, 2) := by decide +kernel
theorem dX9_mendsFaults_8 : decode cX9_mendsFaults 8 = .ok (.aload_n 0, 1) := by decide +kernel
theorem dX9_mendsFaults_9 : decode cX9_mendsFaults 9 = .ok (.getfield 177, 3) := by decide +kernel
theorem dX9_mendsFaults_12 : decode cX9_mendsFaults 12 = .ok (.if_icmp .ge 79, 3) := by decide +kernel
theorem dX9_mendsFaults_15 : decode cX9_mendsFaults 15 = .ok (.aload_n 0, 1) := by decide +kernel
theorem dX9_mendsFaults_16 : decode cX9_mendsFaults 16 = .ok (.getfield 80, 3) := by decide +kernel
theorem dX9_mendsFaults_19 : decode cX9_mendsFaults 19 = .ok (.iload 5, 2) := by decide +kernel
theorem dX9_mendsFaults_21 : decode cX9_mendsFaults 21 = .ok (.iaload, 1) := by decide +kernel
theorem dX9_mendsFaults_22 : decode cX9_mendsFaults 22 = .ok (.iload_n 1, 1) := by decide +kernel
theorem dX9_mendsFaults_23 : decode cX9_mendsFaults 23 = .ok (.if_icmp .lt 14, 3) := by decide +kernel
theorem dX9_mendsFaults_26 : decode cX9_mendsFaults 26 = .ok (.aload_n 0, 1) := by decide +kernel
theorem dX9_mendsFaults_27 : decode cX9_mendsFaults 27 = .ok (.getfield 80, 3) := by decide +kernel
theorem dX9_mendsFaults_30 : decode cX9_mendsFaults 30 = .ok (.iload 5, 2) := by decide +kernel
theorem dX9_mendsFaults_32 : decode cX9_mendsFaults 32 = .ok (.iaload, 1) := by decide +kernel
theorem dX9_mendsFaults_33 : decode cX9_mendsFaults 33 = .ok (.iload_n 2, 1) := by decide +kernel
theorem dX9_mendsFaults_34 : decode cX9_mendsFaults 34 = .ok (.if_icmp .lt 51, 3) := by decide +kernel
theorem dX9_mendsFaults_37 : decode cX9_mendsFaults 37 = .ok (.aload_n 0, 1) := by decide +kernel
theorem dX9_mendsFaults_38 : decode cX9_mendsFaults 38 = .ok (.getfield 77, 3) := by decide +kernel
theorem dX9_mendsFaults_41 : decode cX9_mendsFaults 41 = .ok (.iload 4, 2) := by decide +kernel
theorem dX9_mendsFaults_43 : decode cX9_mendsFaults 43 = .ok (.aload_n 0, 1) := by decide +kernel
theorem dX9_mendsFaults_44 : decode cX9_mendsFaults 44 = .ok (.getfield 77, 3) := by decide +kernel
theorem dX9_mendsFaults_47 : decode cX9_mendsFaults 47 = .ok (.iload 5, 2) := by decide +kernel
theorem dX9_mendsFaults_49 : decode cX9_mendsFaults 49 = .ok (.iaload, 1) := by decide +kernel
theorem dX9_mendsFaults_50 : decode cX9_mendsFaults 50 = .ok (.iastore, 1) := by decide +kernel
theorem dX9_mendsFaults_51 : decode cX9_mendsFaults 51 = .ok (.aload_n 0, 1) := by decide +kernel
theorem dX9_mendsFaults_52 : decode cX9_mendsFaults 52 = .ok (.getfield 80, 3) := by decide +kernel
theorem dX9_mendsFaults_55 : decode cX9_mendsFaults 55 = .ok (.iload 4, 2) := by decide +kernel
theorem dX9_mendsFaults_57 : decode cX9_mendsFaults 57 = .ok (.aload_n 0, 1) := by decide +kernel
theorem dX9_mendsFaults_58 : decode cX9_mendsFaults 58 = .ok (.getfield 80, 3) := by decide +kernel
theorem dX9_mendsFaults_61 : decode cX9_mendsFaults 61 = .ok (.iload 5, 2) := by decide +kernel
theorem dX9_mendsFaults_63 : decode cX9_mendsFaults 63 = .ok (.iaload, 1) := by decide +kernel
theorem dX9_mendsFaults_64 : decode cX9_mendsFaults 64 = .ok (.aload_n 0, 1) := by decide +kernel
theorem dX9_mendsFaults_65 : decode cX9_mendsFaults 65 = .ok (.getfield 80, 3) := by decide +kernel
theorem dX9_mendsFaults_68 : decode cX9_mendsFaults 68 = .ok (.iload 5, 2) := by decide +kernel
theorem dX9_mendsFaults_70 : decode cX9_mendsFaults 70 = .ok (.iaload, 1) := by decide +kernel
theorem dX9_mendsFaults_71 : decode cX9_mendsFaults 71 = .ok (.iload_n 2, 1) := by decide +kernel
theorem dX9_mendsFaults_72 : decode cX9_mendsFaults 72 = .ok (.if_icmp .lt 7, 3) := by decide +kernel
theorem dX9_mendsFaults_75 : decode cX9_mendsFaults 75 = .ok (.iload_n 3, 1) := by decide +kernel
theorem dX9_mendsFaults_76 : decode cX9_mendsFaults 76 = .ok (.goto 4, 3) := by decide +kernel
theorem dX9_mendsFaults_79 : decode cX9_mendsFaults 79 = .ok (.iconst 0, 1) := by decide +kernel
theorem dX9_mendsFaults_80 : decode cX9_mendsFaults 80 = .ok (.iadd, 1) := by decide +kernel
theorem dX9_mendsFaults_81 : decode cX9_mendsFaults 81 = .ok (.iastore, 1) := by decide +kernel
theorem dX9_mendsFaults_82 : decode cX9_mendsFaults 82 = .ok (.iinc 4 1, 3) := by decide +kernel
theorem dX9_mendsFaults_85 : decode cX9_mendsFaults 85 = .ok (.iinc 5 1, 3) := by decide +kernel
theorem dX9_mendsFaults_88 : decode cX9_mendsFaults 88 = .ok (.goto (-82), 3) := by decide +kernel
theorem dX9_mendsFaults_91 : decode cX9_mendsFaults 91 = .ok (.aload_n 0, 1) := by decide +kernel
theorem dX9_mendsFaults_92 : decode cX9_mendsFaults 92 = .ok (.getfield 177, 3) := by decide +kernel
theorem dX9_mendsFaults_95 : decode cX9_mendsFaults 95 = .ok (.iload 4, 2) := by decide +kernel
theorem dX9_mendsFaults_97 : decode cX9_mendsFaults 97 = .ok (.isub, 1) := by decide +kernel
theorem dX9_mendsFaults_98 : decode cX9_mendsFaults 98 = .ok (.istore 5, 2) := by decide +kernel
theorem dX9_mendsFaults_100 : decode cX9_mendsFaults 100 = .ok (.aload_n 0, 1) := by decide +kernel
theorem dX9_mendsFaults_101 : decode cX9_mendsFaults 101 = .ok (.iload 4, 2) := by decide +kernel
theorem dX9_mendsFaults_103 : decode cX9_mendsFaults 103 = .ok (.putfield 177, 3) := by decide +kernel
theorem dX9_mendsFaults_106 : decode cX9_mendsFaults 106 = .ok (.aload_n 0, 1) := by decide +kernel
theorem dX9_mendsFaults_107 : decode cX9_mendsFaults 107 = .ok (.invokevirtual 180, 3) := by decide +kernel
theorem dX9_mendsFaults_110 : decode cX9_mendsFaults 110 = .ok (.iload 5, 2) := by decide +kernel
theorem dX9_mendsFaults_112 : decode cX9_mendsFaults 112 = .ok (.ireturn, 1) := by decide +kernel
theorem dX9_isDeadNow_0 : decode cX9_isDeadNow 0 = .ok (.iload_n 1, 1) := by decide +kernel
theorem dX9_isDeadNow_1 : decode cX9_isDeadNow 1 = .ok (.ifCond .ne 18, 3) := by decide +kernel
theorem dX9_isDeadNow_4 : decode cX9_isDeadNow 4 = .ok (.aload_n 0, 1) := by decide +kernel
theorem dX9_isDeadNow_5 : decode cX9_isDeadNow 5 = .ok (.invokevirtual 259, 3) := by decide +kernel
theorem dX9_isDeadNow_8 : decode cX9_isDeadNow 8 = .ok (.ifCond .ne 7, 3) := by decide +kernel
theorem dX9_isDeadNow_11 : decode cX9_isDeadNow 11 = .ok (.iconst 1, 1) := by decide +kernel
theorem dX9_isDeadNow_12 : decode cX9_isDeadNow 12 = .ok (.goto 13, 3) := by decide +kernel
theorem dX9_isDeadNow_15 : decode cX9_isDeadNow 15 = .ok (.iconst 0, 1) := by decide +kernel
theorem dX9_isDeadNow_16 : decode cX9_isDeadNow 16 = .ok (.goto 9, 3) := by decide +kernel
theorem dX9_isDeadNow_19 : decode cX9_isDeadNow 19 = .ok (.aload_n 0, 1) := by decide +kernel
theorem dX9_isDeadNow_20 : decode cX9_isDeadNow 20 = .ok (.getfield 102, 3) := by decide +kernel
theorem dX9_isDeadNow_23 : decode cX9_isDeadNow 23 = .ok (.iload_n 1, 1) := by decide +kernel
theorem dX9_isDeadNow_24 : decode cX9_isDeadNow 24 = .ok (.baload, 1) := by decide +kernel
theorem dX9_isDeadNow_25 : decode cX9_isDeadNow 25 = .ok (.ireturn, 1) := by decide +kernel
theorem dX9_link_0 : decode cX9_link 0 = .ok (.iload_n 1, 1) := by decide +kernel
theorem dX9_link_1 : decode cX9_link 1 = .ok (.iconst 0, 1) := by decide +kernel
theorem dX9_link_2 : decode cX9_link 2 = .ok (.iconst 3, 1) := by decide +kernel
theorem dX9_link_3 : decode cX9_link 3 = .ok (.invokestatic 123, 3) := by decide +kernel
theorem dX9_link_6 : decode cX9_link 6 = .ok (.ifCond .eq 31, 3) := by decide +kernel
theorem dX9_link_9 : decode cX9_link 9 = .ok (.iload_n 2, 1) := by decide +kernel
theorem dX9_link_10 : decode cX9_link 10 = .ok (.iconst 0, 1) := by decide +kernel
theorem dX9_link_11 : decode cX9_link 11 = .ok (.iconst 3, 1) := by decide +kernel
theorem dX9_link_12 : decode cX9_link 12 = .ok (.invokestatic 123, 3) := by decide +kernel
theorem dX9_link_15 : decode cX9_link 15 = .ok (.ifCond .eq 22, 3) := by decide +kernel
theorem dX9_link_18 : decode cX9_link 18 = .ok (.iload_n 1, 1) := by decide +kernel
theorem dX9_link_19 : decode cX9_link 19 = .ok (.iload_n 2, 1) := by decide +kernel
theorem dX9_link_20 : decode cX9_link 20 = .ok (.if_icmp .eq 17, 3) := by decide +kernel
theorem dX9_link_23 : decode cX9_link 23 = .ok (.iload_n 3, 1) := by decide +kernel
theorem dX9_link_24 : decode cX9_link 24 = .ok (.iconst 1, 1) := by decide +kernel
theorem dX9_link_25 : decode cX9_link 25 = .ok (.bipush 20, 2) := by decide +kernel
theorem dX9_link_27 : decode cX9_link 27 = .ok (.invokestatic 123, 3) := by decide +kernel
theorem dX9_link_30 : decode cX9_link 30 = .ok (.ifCond .eq 7, 3) := by decide +kernel
theorem dX9_link_33 : decode cX9_link 33 = .ok (.iconst 1, 1) := by decide +kernel
theorem dX9_link_34 : decode cX9_link 34 = .ok (.goto 4, 3) := by decide +kernel
theorem dX9_link_37 : decode cX9_link 37 = .ok (.iconst 0, 1) := by decide +kernel
theorem dX9_link_38 : decode cX9_link 38 = .ok (.istore 4, 2) := by decide +kernel
theorem dX9_link_40 : decode cX9_link 40 = .ok (.aload_n 0, 1) := by decide +kernel
theorem dX9_link_41 : decode cX9_link 41 = .ok (.iload 4, 2) := by decide +kernel
theorem dX9_link_43 : decode cX9_link 43 = .ok (.ifCond .ne 7, 3) := by decide +kernel
theorem dX9_link_46 : decode cX9_link 46 = .ok (.iconst 1, 1) := by decide +kernel
theorem dX9_link_47 : decode cX9_link 47 = .ok (.goto 17, 3) := by decide +kernel
theorem dX9_link_50 : decode cX9_link 50 = .ok (.aload_n 0, 1) := by decide +kernel
theorem dX9_link_51 : decode cX9_link 51 = .ok (.getfield 89, 3) := by decide +kernel
theorem dX9_link_54 : decode cX9_link 54 = .ok (.bipush 6, 2) := by decide +kernel
theorem dX9_link_56 : decode cX9_link 56 = .ok (.if_icmp .ne 7, 3) := by decide +kernel
theorem dX9_link_59 : decode cX9_link 59 = .ok (.iconst 2, 1) := by decide +kernel
theorem dX9_link_60 : decode cX9_link 60 = .ok (.goto 4, 3) := by decide +kernel
theorem dX9_link_63 : decode cX9_link 63 = .ok (.iconst 0, 1) := by decide +kernel
theorem dX9_link_64 : decode cX9_link 64 = .ok (.putfield 120, 3) := by decide +kernel
theorem dX9_link_67 : decode cX9_link 67 = .ok (.aload_n 0, 1) := by decide +kernel
theorem dX9_link_68 : decode cX9_link 68 = .ok (.getfield 120, 3) := by decide +kernel
theorem dX9_link_71 : decode cX9_link 71 = .ok (.ifCond .le 5, 3) := by decide +kernel
theorem dX9_link_74 : decode cX9_link 74 = .ok (.iconst 0, 1) := by decide +kernel
theorem dX9_link_75 : decode cX9_link 75 = .ok (.ireturn, 1) := by decide +kernel
theorem dX9_link_76 : decode cX9_link 76 = .ok (.aload_n 0, 1) := by decide +kernel
theorem dX9_link_77 : decode cX9_link 77 = .ok (.getfield 93, 3) := by decide +kernel
theorem dX9_link_80 : decode cX9_link 80 = .ok (.aload_n 0, 1) := by decide +kernel
theorem dX9_link_81 : decode cX9_link 81 = .ok (.getfield 89, 3) := by decide +kernel
theorem dX9_link_84 : decode cX9_link 84 = .ok (.iload_n 1, 1) := by decide +kernel
theorem dX9_link_85 : decode cX9_link 85 = .ok (.iastore, 1) := by decide +kernel
theorem dX9_link_86 : decode cX9_link 86 = .ok (.aload_n 0, 1) := by decide +kernel
theorem dX9_link_87 : decode cX9_link 87 = .ok (.getfield 96, 3) := by decide +kernel
theorem dX9_link_90 : decode cX9_link 90 = .ok (.aload_n 0, 1) := by decide +kernel
theorem dX9_link_91 : decode cX9_link 91 = .ok (.getfield 89, 3) := by decide +kernel
theorem dX9_link_94 : decode cX9_link 94 = .ok (.iload_n 2, 1) := by decide +kernel
theorem dX9_link_95 : decode cX9_link 95 = .ok (.iastore, 1) := by decide +kernel
theorem dX9_link_96 : decode cX9_link 96 = .ok (.aload_n 0, 1) := by decide +kernel
theorem dX9_link_97 : decode cX9_link 97 = .ok (.getfield 99, 3) := by decide +kernel
theorem dX9_link_100 : decode cX9_link 100 = .ok (.aload_n 0, 1) := by decide +kernel
theorem dX9_link_101 : decode cX9_link 101 = .ok (.getfield 89, 3) := by decide +kernel
theorem dX9_link_104 : decode cX9_link 104 = .ok (.iload_n 3, 1) := by decide +kernel
theorem dX9_link_105 : decode cX9_link 105 = .ok (.iastore, 1) := by decide +kernel
theorem dX9_link_106 : decode cX9_link 106 = .ok (.aload_n 0, 1) := by decide +kernel
theorem dX9_link_107 : decode cX9_link 107 = .ok (.dup, 1) := by decide +kernel
theorem dX9_link_108 : decode cX9_link 108 = .ok (.getfield 89, 3) := by decide +kernel
theorem dX9_link_111 : decode cX9_link 111 = .ok (.iconst 1, 1) := by decide +kernel
theorem dX9_link_112 : decode cX9_link 112 = .ok (.iadd, 1) := by decide +kernel
theorem dX9_link_113 : decode cX9_link 113 = .ok (.putfield 89, 3) := by decide +kernel
theorem dX9_link_116 : decode cX9_link 116 = .ok (.aload_n 0, 1) := by decide +kernel
theorem dX9_link_117 : decode cX9_link 117 = .ok (.getfield 89, 3) := by decide +kernel
theorem dX9_link_120 : decode cX9_link 120 = .ok (.iconst 1, 1) := by decide +kernel
theorem dX9_link_121 : decode cX9_link 121 = .ok (.isub, 1) := by decide +kernel
theorem dX9_link_122 : decode cX9_link 122 = .ok (.ireturn, 1) := by decide +kernel
theorem dX9_dead_0 : decode cX9_dead 0 = .ok (.aload_n 0, 1) := by decide +kernel
theorem dX9_dead_1 : decode cX9_dead 1 = .ok (.iload_n 1, 1) := by decide +kernel
theorem dX9_dead_2 : decode cX9_dead 2 = .ok (.iconst 0, 1) := by decide +kernel
theorem dX9_dead_3 : decode cX9_dead 3 = .ok (.aload_n 0, 1) := by decide +kernel
theorem dX9_dead_4 : decode cX9_dead 4 = .ok (.getfield 89, 3) := by decide +kernel
theorem dX9_dead_7 : decode cX9_dead 7 = .ok (.iconst 1, 1) := by decide +kernel
theorem dX9_dead_8 : decode cX9_dead 8 = .ok (.isub, 1) := by decide +kernel
theorem dX9_dead_9 : decode cX9_dead 9 = .ok (.invokestatic 123, 3) := by decide +kernel
theorem dX9_dead_12 : decode cX9_dead 12 = .ok (.ifCond .ne 7, 3) := by decide +kernel
theorem dX9_dead_15 : decode cX9_dead 15 = .ok (.iconst 1, 1) := by decide +kernel
theorem dX9_dead_16 : decode cX9_dead 16 = .ok (.goto 12, 3) := by decide +kernel
theorem dX9_dead_19 : decode cX9_dead 19 = .ok (.iload_n 1, 1) := by decide +kernel
theorem dX9_dead_20 : decode cX9_dead 20 = .ok (.ifCond .ne 7, 3) := by decide +kernel
theorem dX9_dead_23 : decode cX9_dead 23 = .ok (.iconst 2, 1) := by decide +kernel
theorem dX9_dead_24 : decode cX9_dead 24 = .ok (.goto 4, 3) := by decide +kernel
theorem dX9_dead_27 : decode cX9_dead 27 = .ok (.iconst 0, 1) := by decide +kernel
theorem dX9_dead_28 : decode cX9_dead 28 = .ok (.putfield 120, 3) := by decide +kernel
theorem dX9_dead_31 : decode cX9_dead 31 = .ok (.aload_n 0, 1) := by decide +kernel
theorem dX9_dead_32 : decode cX9_dead 32 = .ok (.getfield 120, 3) := by decide +kernel
theorem dX9_dead_35 : decode cX9_dead 35 = .ok (.ifCond .le 5, 3) := by decide +kernel
theorem dX9_dead_38 : decode cX9_dead 38 = .ok (.iconst 0, 1) := by decide +kernel
theorem dX9_dead_39 : decode cX9_dead 39 = .ok (.ireturn, 1) := by decide +kernel
theorem dX9_dead_40 : decode cX9_dead 40 = .ok (.aload_n 0, 1) := by decide +kernel
theorem dX9_dead_41 : decode cX9_dead 41 = .ok (.getfield 102, 3) := by decide +kernel
theorem dX9_dead_44 : decode cX9_dead 44 = .ok (.iload_n 1, 1) := by decide +kernel
theorem dX9_dead_45 : decode cX9_dead 45 = .ok (.baload, 1) := by decide +kernel
theorem dX9_dead_46 : decode cX9_dead 46 = .ok (.istore_n 3, 1) := by decide +kernel
theorem dX9_dead_47 : decode cX9_dead 47 = .ok (.aload_n 0, 1) := by decide +kernel
theorem dX9_dead_48 : decode cX9_dead 48 = .ok (.getfield 102, 3) := by decide +kernel
theorem dX9_dead_51 : decode cX9_dead 51 = .ok (.iload_n 1, 1) := by decide +kernel
theorem dX9_dead_52 : decode cX9_dead 52 = .ok (.iload_n 2, 1) := by decide +kernel
theorem dX9_dead_53 : decode cX9_dead 53 = .ok (.bastore, 1) := by decide +kernel
theorem dX9_dead_54 : decode cX9_dead 54 = .ok (.iload_n 3, 1) := by decide +kernel
theorem dX9_dead_55 : decode cX9_dead 55 = .ok (.ireturn, 1) := by decide +kernel
theorem dX9_hasFree_0 : decode cX9_hasFree 0 = .ok (.aload_n 0, 1) := by decide +kernel
theorem dX9_hasFree_1 : decode cX9_hasFree 1 = .ok (.getfield 99, 3) := by decide +kernel
theorem dX9_hasFree_4 : decode cX9_hasFree 4 = .ok (.iload_n 1, 1) := by decide +kernel
theorem dX9_hasFree_5 : decode cX9_hasFree 5 = .ok (.iaload, 1) := by decide +kernel
theorem dX9_hasFree_6 : decode cX9_hasFree 6 = .ok (.istore_n 3, 1) := by decide +kernel
theorem dX9_hasFree_7 : decode cX9_hasFree 7 = .ok (.iconst 0, 1) := by decide +kernel
theorem dX9_hasFree_8 : decode cX9_hasFree 8 = .ok (.istore 4, 2) := by decide +kernel
theorem dX9_hasFree_10 : decode cX9_hasFree 10 = .ok (.iload 4, 2) := by decide +kernel
theorem dX9_hasFree_12 : decode cX9_hasFree 12 = .ok (.aload_n 0, 1) := by decide +kernel
theorem dX9_hasFree_13 : decode cX9_hasFree 13 = .ok (.getfield 286, 3) := by decide +kernel
theorem dX9_hasFree_16 : decode cX9_hasFree 16 = .ok (.if_icmp .ge 38, 3) := by decide +kernel
theorem dX9_hasFree_19 : decode cX9_hasFree 19 = .ok (.iload_n 3, 1) := by decide +kernel
theorem dX9_hasFree_20 : decode cX9_hasFree 20 = .ok (.aload_n 0, 1) := by decide +kernel
theorem dX9_hasFree_21 : decode cX9_hasFree 21 = .ok (.getfield 114, 3) := by decide +kernel
theorem dX9_hasFree_24 : decode cX9_hasFree 24 = .ok (.iload 4, 2) := by decide +kernel
theorem dX9_hasFree_26 : decode cX9_hasFree 26 = .ok (.iaload, 1) := by decide +kernel
theorem dX9_hasFree_27 : decode cX9_hasFree 27 = .ok (.iload_n 1, 1) := by decide +kernel
theorem dX9_hasFree_28 : decode cX9_hasFree 28 = .ok (.ishr, 1) := by decide +kernel
theorem dX9_hasFree_29 : decode cX9_hasFree 29 = .ok (.iconst 1, 1) := by decide +kernel
theorem dX9_hasFree_30 : decode cX9_hasFree 30 = .ok (.iand, 1) := by decide +kernel
theorem dX9_hasFree_31 : decode cX9_hasFree 31 = .ok (.iconst 1, 1) := by decide +kernel
theorem dX9_hasFree_32 : decode cX9_hasFree 32 = .ok (.if_icmp .ne 13, 3) := by decide +kernel
theorem dX9_hasFree_35 : decode cX9_hasFree 35 = .ok (.aload_n 0, 1) := by decide +kernel
theorem dX9_hasFree_36 : decode cX9_hasFree 36 = .ok (.getfield 111, 3) := by decide +kernel
theorem dX9_hasFree_39 : decode cX9_hasFree 39 = .ok (.iload 4, 2) := by decide +kernel
theorem dX9_hasFree_41 : decode cX9_hasFree 41 = .ok (.iaload, 1) := by decide +kernel
theorem dX9_hasFree_42 : decode cX9_hasFree 42 = .ok (.goto 4, 3) := by decide +kernel
theorem dX9_hasFree_45 : decode cX9_hasFree 45 = .ok (.iconst 0, 1) := by decide +kernel
theorem dX9_hasFree_46 : decode cX9_hasFree 46 = .ok (.isub, 1) := by decide +kernel
theorem dX9_hasFree_47 : decode cX9_hasFree 47 = .ok (.istore_n 3, 1) := by decide +kernel
theorem dX9_hasFree_48 : decode cX9_hasFree 48 = .ok (.iinc 4 1, 3) := by decide +kernel
theorem dX9_hasFree_51 : decode cX9_hasFree 51 = .ok (.goto (-41), 3) := by decide +kernel
theorem dX9_hasFree_54 : decode cX9_hasFree 54 = .ok (.aload_n 0, 1) := by decide +kernel
theorem dX9_hasFree_55 : decode cX9_hasFree 55 = .ok (.iload_n 1, 1) := by decide +kernel
theorem dX9_hasFree_56 : decode cX9_hasFree 56 = .ok (.invokevirtual 289, 3) := by decide +kernel
theorem dX9_hasFree_59 : decode cX9_hasFree 59 = .ok (.ifCond .ne 17, 3) := by decide +kernel
theorem dX9_hasFree_62 : decode cX9_hasFree 62 = .ok (.iload_n 3, 1) := by decide +kernel
theorem dX9_hasFree_63 : decode cX9_hasFree 63 = .ok (.aload_n 0, 1) := by decide +kernel
theorem dX9_hasFree_64 : decode cX9_hasFree 64 = .ok (.getfield 111, 3) := by decide +kernel
theorem dX9_hasFree_67 : decode cX9_hasFree 67 = .ok (.iload_n 2, 1) := by decide +kernel
theorem dX9_hasFree_68 : decode cX9_hasFree 68 = .ok (.iaload, 1) := by decide +kernel
theorem dX9_hasFree_69 : decode cX9_hasFree 69 = .ok (.if_icmp .lt 7, 3) := by decide +kernel
theorem dX9_hasFree_72 : decode cX9_hasFree 72 = .ok (.iconst 1, 1) := by decide +kernel
theorem dX9_hasFree_73 : decode cX9_hasFree 73 = .ok (.goto 4, 3) := by decide +kernel
theorem dX9_hasFree_76 : decode cX9_hasFree 76 = .ok (.iconst 0, 1) := by decide +kernel
theorem dX9_hasFree_77 : decode cX9_hasFree 77 = .ok (.ireturn, 1) := by decide +kernel
theorem dX9_across_0 : decode cX9_across 0 = .ok (.aload_n 0, 1) := by decide +kernel
theorem dX9_across_1 : decode cX9_across 1 = .ok (.getfield 93, 3) := by decide +kernel
theorem dX9_across_4 : decode cX9_across 4 = .ok (.iload_n 1, 1) := by decide +kernel
theorem dX9_across_5 : decode cX9_across 5 = .ok (.iaload, 1) := by decide +kernel
theorem dX9_across_6 : decode cX9_across 6 = .ok (.iload_n 2, 1) := by decide +kernel
theorem dX9_across_7 : decode cX9_across 7 = .ok (.if_icmp .ne 12, 3) := by decide +kernel
theorem dX9_across_10 : decode cX9_across 10 = .ok (.aload_n 0, 1) := by decide +kernel
theorem dX9_across_11 : decode cX9_across 11 = .ok (.getfield 96, 3) := by decide +kernel
theorem dX9_across_14 : decode cX9_across 14 = .ok (.iload_n 1, 1) := by decide +kernel
theorem dX9_across_15 : decode cX9_across 15 = .ok (.iaload, 1) := by decide +kernel
theorem dX9_across_16 : decode cX9_across 16 = .ok (.goto 23, 3) := by decide +kernel
theorem dX9_across_19 : decode cX9_across 19 = .ok (.aload_n 0, 1) := by decide +kernel
theorem dX9_across_20 : decode cX9_across 20 = .ok (.getfield 96, 3) := by decide +kernel
theorem dX9_across_23 : decode cX9_across 23 = .ok (.iload_n 1, 1) := by decide +kernel
theorem dX9_across_24 : decode cX9_across 24 = .ok (.iaload, 1) := by decide +kernel
theorem dX9_across_25 : decode cX9_across 25 = .ok (.iload_n 2, 1) := by decide +kernel
theorem dX9_across_26 : decode cX9_across 26 = .ok (.if_icmp .ne 12, 3) := by decide +kernel
theorem dX9_across_29 : decode cX9_across 29 = .ok (.aload_n 0, 1) := by decide +kernel
theorem dX9_across_30 : decode cX9_across 30 = .ok (.getfield 93, 3) := by decide +kernel
theorem dX9_across_33 : decode cX9_across 33 = .ok (.iload_n 1, 1) := by decide +kernel
theorem dX9_across_34 : decode cX9_across 34 = .ok (.iaload, 1) := by decide +kernel
theorem dX9_across_35 : decode cX9_across 35 = .ok (.goto 4, 3) := by decide +kernel
theorem dX9_across_38 : decode cX9_across 38 = .ok (.iconst (-1), 1) := by decide +kernel
theorem dX9_across_39 : decode cX9_across 39 = .ok (.ireturn, 1) := by decide +kernel
theorem dX9_wayOf_0 : decode cX9_wayOf 0 = .ok (.iconst 1, 1) := by decide +kernel
theorem dX9_wayOf_1 : decode cX9_wayOf 1 = .ok (.istore_n 3, 1) := by decide +kernel
theorem dX9_wayOf_2 : decode cX9_wayOf 2 = .ok (.iconst 0, 1) := by decide +kernel
theorem dX9_wayOf_3 : decode cX9_wayOf 3 = .ok (.istore 4, 2) := by decide +kernel
theorem dX9_wayOf_5 : decode cX9_wayOf 5 = .ok (.iload 4, 2) := by decide +kernel
theorem dX9_wayOf_7 : decode cX9_wayOf 7 = .ok (.iload_n 2, 1) := by decide +kernel
theorem dX9_wayOf_8 : decode cX9_wayOf 8 = .ok (.if_icmp .ge 14, 3) := by decide +kernel
theorem dX9_wayOf_11 : decode cX9_wayOf 11 = .ok (.iload_n 3, 1) := by decide +kernel
theorem dX9_wayOf_12 : decode cX9_wayOf 12 = .ok (.bipush 6, 2) := by decide +kernel
theorem dX9_wayOf_14 : decode cX9_wayOf 14 = .ok (.imul, 1) := by decide +kernel
theorem dX9_wayOf_15 : decode cX9_wayOf 15 = .ok (.istore_n 3, 1) := by decide +kernel
theorem dX9_wayOf_16 : decode cX9_wayOf 16 = .ok (.iinc 4 1, 3) := by decide +kernel
theorem dX9_wayOf_19 : decode cX9_wayOf 19 = .ok (.goto (-14), 3) := by decide +kernel
theorem dX9_wayOf_22 : decode cX9_wayOf 22 = .ok (.iconst 0, 1) := by decide +kernel
theorem dX9_wayOf_23 : decode cX9_wayOf 23 = .ok (.istore 4, 2) := by decide +kernel
theorem dX9_wayOf_25 : decode cX9_wayOf 25 = .ok (.iload 4, 2) := by decide +kernel
theorem dX9_wayOf_27 : decode cX9_wayOf 27 = .ok (.iload_n 3, 1) := by decide +kernel
theorem dX9_wayOf_28 : decode cX9_wayOf 28 = .ok (.if_icmp .ge 166, 3) := by decide +kernel
theorem dX9_wayOf_31 : decode cX9_wayOf 31 = .ok (.iload_n 3, 1) := by decide +kernel
theorem dX9_wayOf_32 : decode cX9_wayOf 32 = .ok (.istore 5, 2) := by decide +kernel
theorem dX9_wayOf_34 : decode cX9_wayOf 34 = .ok (.aload_n 0, 1) := by decide +kernel
theorem dX9_wayOf_35 : decode cX9_wayOf 35 = .ok (.getfield 105, 3) := by decide +kernel
theorem dX9_wayOf_38 : decode cX9_wayOf 38 = .ok (.iload_n 1, 1) := by decide +kernel
theorem dX9_wayOf_39 : decode cX9_wayOf 39 = .ok (.iaload, 1) := by decide +kernel
theorem dX9_wayOf_40 : decode cX9_wayOf 40 = .ok (.istore 6, 2) := by decide +kernel
theorem dX9_wayOf_42 : decode cX9_wayOf 42 = .ok (.iconst 1, 1) := by decide +kernel
theorem dX9_wayOf_43 : decode cX9_wayOf 43 = .ok (.iload 6, 2) := by decide +kernel
theorem dX9_wayOf_45 : decode cX9_wayOf 45 = .ok (.ishl, 1) := by decide +kernel
theorem dX9_wayOf_46 : decode cX9_wayOf 46 = .ok (.istore 7, 2) := by decide +kernel
theorem dX9_wayOf_48 : decode cX9_wayOf 48 = .ok (.iconst 0, 1) := by decide +kernel
theorem dX9_wayOf_49 : decode cX9_wayOf 49 = .ok (.istore 8, 2) := by decide +kernel
theorem dX9_wayOf_51 : decode cX9_wayOf 51 = .ok (.iconst 0, 1) := by decide +kernel
theorem dX9_wayOf_52 : decode cX9_wayOf 52 = .ok (.istore 9, 2) := by decide +kernel
theorem dX9_wayOf_54 : decode cX9_wayOf 54 = .ok (.iload 9, 2) := by decide +kernel
theorem dX9_wayOf_56 : decode cX9_wayOf 56 = .ok (.iload_n 2, 1) := by decide +kernel
theorem dX9_wayOf_57 : decode cX9_wayOf 57 = .ok (.if_icmp .ge 117, 3) := by decide +kernel
theorem dX9_wayOf_60 : decode cX9_wayOf 60 = .ok (.iload 6, 2) := by decide +kernel
theorem dX9_wayOf_62 : decode cX9_wayOf 62 = .ok (.iconst (-1), 1) := by decide +kernel
theorem dX9_wayOf_63 : decode cX9_wayOf 63 = .ok (.if_icmp .eq 111, 3) := by decide +kernel
theorem dX9_wayOf_66 : decode cX9_wayOf 66 = .ok (.iload 5, 2) := by decide +kernel
theorem dX9_wayOf_68 : decode cX9_wayOf 68 = .ok (.bipush 6, 2) := by decide +kernel
theorem dX9_wayOf_70 : decode cX9_wayOf 70 = .ok (.idiv, 1) := by decide +kernel
theorem dX9_wayOf_71 : decode cX9_wayOf 71 = .ok (.istore 5, 2) := by decide +kernel
theorem dX9_wayOf_73 : decode cX9_wayOf 73 = .ok (.iload 4, 2) := by decide +kernel
theorem dX9_wayOf_75 : decode cX9_wayOf 75 = .ok (.iload 5, 2) := by decide +kernel
theorem dX9_wayOf_77 : decode cX9_wayOf 77 = .ok (.idiv, 1) := by decide +kernel
theorem dX9_wayOf_78 : decode cX9_wayOf 78 = .ok (.bipush 6, 2) := by decide +kernel
theorem dX9_wayOf_80 : decode cX9_wayOf 80 = .ok (.irem, 1) := by decide +kernel
theorem dX9_wayOf_81 : decode cX9_wayOf 81 = .ok (.istore 10, 2) := by decide +kernel
theorem dX9_wayOf_83 : decode cX9_wayOf 83 = .ok (.iload 10, 2) := by decide +kernel
theorem dX9_wayOf_85 : decode cX9_wayOf 85 = .ok (.aload_n 0, 1) := by decide +kernel
theorem dX9_wayOf_86 : decode cX9_wayOf 86 = .ok (.getfield 89, 3) := by decide +kernel
theorem dX9_wayOf_89 : decode cX9_wayOf 89 = .ok (.if_icmp .ge 24, 3) := by decide +kernel
theorem dX9_wayOf_92 : decode cX9_wayOf 92 = .ok (.aload_n 0, 1) := by decide +kernel
theorem dX9_wayOf_93 : decode cX9_wayOf 93 = .ok (.iload 10, 2) := by decide +kernel
theorem dX9_wayOf_95 : decode cX9_wayOf 95 = .ok (.iload_n 1, 1) := by decide +kernel
theorem dX9_wayOf_96 : decode cX9_wayOf 96 = .ok (.invokevirtual 292, 3) := by decide +kernel
theorem dX9_wayOf_99 : decode cX9_wayOf 99 = .ok (.ifCond .eq 14, 3) := by decide +kernel
theorem dX9_wayOf_102 : decode cX9_wayOf 102 = .ok (.aload_n 0, 1) := by decide +kernel
theorem dX9_wayOf_103 : decode cX9_wayOf 103 = .ok (.iload 10, 2) := by decide +kernel
theorem dX9_wayOf_105 : decode cX9_wayOf 105 = .ok (.iload 6, 2) := by decide +kernel
theorem dX9_wayOf_107 : decode cX9_wayOf 107 = .ok (.invokevirtual 295, 3) := by decide +kernel
theorem dX9_wayOf_110 : decode cX9_wayOf 110 = .ok (.goto 4, 3) := by decide +kernel
theorem dX9_wayOf_113 : decode cX9_wayOf 113 = .ok (.iconst (-1), 1) := by decide +kernel
theorem dX9_wayOf_114 : decode cX9_wayOf 114 = .ok (.istore 6, 2) := by decide +kernel
theorem dX9_wayOf_116 : decode cX9_wayOf 116 = .ok (.iload 6, 2) := by decide +kernel
theorem dX9_wayOf_118 : decode cX9_wayOf 118 = .ok (.iconst (-1), 1) := by decide +kernel
theorem dX9_wayOf_119 : decode cX9_wayOf 119 = .ok (.if_icmp .eq 18, 3) := by decide +kernel
theorem dX9_wayOf_122 : decode cX9_wayOf 122 = .ok (.iload 7, 2) := by decide +kernel
theorem dX9_wayOf_124 : decode cX9_wayOf 124 = .ok (.iload 6, 2) := by decide +kernel
theorem dX9_wayOf_126 : decode cX9_wayOf 126 = .ok (.ishr, 1) := by decide +kernel
theorem dX9_wayOf_127 : decode cX9_wayOf 127 = .ok (.iconst 1, 1) := by decide +kernel
theorem dX9_wayOf_128 : decode cX9_wayOf 128 = .ok (.iand, 1) := by decide +kernel
theorem dX9_wayOf_129 : decode cX9_wayOf 129 = .ok (.ifCond .ne 8, 3) := by decide +kernel
theorem dX9_wayOf_132 : decode cX9_wayOf 132 = .ok (.iload 6, 2) := by decide +kernel
theorem dX9_wayOf_134 : decode cX9_wayOf 134 = .ok (.goto 4, 3) := by decide +kernel
theorem dX9_wayOf_137 : decode cX9_wayOf 137 = .ok (.iconst (-1), 1) := by decide +kernel
theorem dX9_wayOf_138 : decode cX9_wayOf 138 = .ok (.istore 6, 2) := by decide +kernel
theorem dX9_wayOf_140 : decode cX9_wayOf 140 = .ok (.iload 7, 2) := by decide +kernel
theorem dX9_wayOf_142 : decode cX9_wayOf 142 = .ok (.iload 6, 2) := by decide +kernel
theorem dX9_wayOf_144 : decode cX9_wayOf 144 = .ok (.iconst (-1), 1) := by decide +kernel
theorem dX9_wayOf_145 : decode cX9_wayOf 145 = .ok (.if_icmp .ne 7, 3) := by decide +kernel
theorem dX9_wayOf_148 : decode cX9_wayOf 148 = .ok (.iconst 0, 1) := by decide +kernel
theorem dX9_wayOf_149 : decode cX9_wayOf 149 = .ok (.goto 7, 3) := by decide +kernel
theorem dX9_wayOf_152 : decode cX9_wayOf 152 = .ok (.iconst 1, 1) := by decide +kernel
theorem dX9_wayOf_153 : decode cX9_wayOf 153 = .ok (.iload 6, 2) := by decide +kernel
theorem dX9_wayOf_155 : decode cX9_wayOf 155 = .ok (.ishl, 1) := by decide +kernel
theorem dX9_wayOf_156 : decode cX9_wayOf 156 = .ok (.ior, 1) := by decide +kernel
theorem dX9_wayOf_157 : decode cX9_wayOf 157 = .ok (.istore 7, 2) := by decide +kernel
theorem dX9_wayOf_159 : decode cX9_wayOf 159 = .ok (.iload 8, 2) := by decide +kernel
theorem dX9_wayOf_161 : decode cX9_wayOf 161 = .ok (.iconst 1, 1) := by decide +kernel
theorem dX9_wayOf_162 : decode cX9_wayOf 162 = .ok (.iload 10, 2) := by decide +kernel
theorem dX9_wayOf_164 : decode cX9_wayOf 164 = .ok (.ishl, 1) := by decide +kernel
theorem dX9_wayOf_165 : decode cX9_wayOf 165 = .ok (.ior, 1) := by decide +kernel
theorem dX9_wayOf_166 : decode cX9_wayOf 166 = .ok (.istore 8, 2) := by decide +kernel
theorem dX9_wayOf_168 : decode cX9_wayOf 168 = .ok (.iinc 9 1, 3) := by decide +kernel
theorem dX9_wayOf_171 : decode cX9_wayOf 171 = .ok (.goto (-117), 3) := by decide +kernel
theorem dX9_wayOf_174 : decode cX9_wayOf 174 = .ok (.iload 6, 2) := by decide +kernel
theorem dX9_wayOf_176 : decode cX9_wayOf 176 = .ok (.aload_n 0, 1) := by decide +kernel
theorem dX9_wayOf_177 : decode cX9_wayOf 177 = .ok (.getfield 108, 3) := by decide +kernel
theorem dX9_wayOf_180 : decode cX9_wayOf 180 = .ok (.iload_n 1, 1) := by decide +kernel
theorem dX9_wayOf_181 : decode cX9_wayOf 181 = .ok (.iaload, 1) := by decide +kernel
theorem dX9_wayOf_182 : decode cX9_wayOf 182 = .ok (.if_icmp .ne 6, 3) := by decide +kernel
theorem dX9_wayOf_185 : decode cX9_wayOf 185 = .ok (.iload 8, 2) := by decide +kernel
theorem dX9_wayOf_187 : decode cX9_wayOf 187 = .ok (.ireturn, 1) := by decide +kernel
theorem dX9_wayOf_188 : decode cX9_wayOf 188 = .ok (.iinc 4 1, 3) := by decide +kernel
theorem dX9_wayOf_191 : decode cX9_wayOf 191 = .ok (.goto (-166), 3) := by decide +kernel
theorem dX9_wayOf_194 : decode cX9_wayOf 194 = .ok (.iconst 0, 1) := by decide +kernel
theorem dX9_wayOf_195 : decode cX9_wayOf 195 = .ok (.ireturn, 1) := by decide +kernel
theorem dX9_carries_0 : decode cX9_carries 0 = .ok (.iconst 1, 1) := by decide +kernel
theorem dX9_carries_1 : decode cX9_carries 1 = .ok (.istore_n 2, 1) := by decide +kernel
theorem dX9_carries_2 : decode cX9_carries 2 = .ok (.iload_n 2, 1) := by decide +kernel
theorem dX9_carries_3 : decode cX9_carries 3 = .ok (.iconst 4, 1) := by decide +kernel
theorem dX9_carries_4 : decode cX9_carries 4 = .ok (.if_icmp .ge 30, 3) := by decide +kernel
theorem dX9_carries_7 : decode cX9_carries 7 = .ok (.aload_n 0, 1) := by decide +kernel
theorem dX9_carries_8 : decode cX9_carries 8 = .ok (.getfield 114, 3) := by decide +kernel
theorem dX9_carries_11 : decode cX9_carries 11 = .ok (.iload_n 1, 1) := by decide +kernel
theorem dX9_carries_12 : decode cX9_carries 12 = .ok (.iaload, 1) := by decide +kernel
theorem dX9_carries_13 : decode cX9_carries 13 = .ok (.ifCond .ne 21, 3) := by decide +kernel
theorem dX9_carries_16 : decode cX9_carries 16 = .ok (.aload_n 0, 1) := by decide +kernel
theorem dX9_carries_17 : decode cX9_carries 17 = .ok (.getfield 114, 3) := by decide +kernel
theorem dX9_carries_20 : decode cX9_carries 20 = .ok (.iload_n 1, 1) := by decide +kernel
theorem dX9_carries_21 : decode cX9_carries 21 = .ok (.aload_n 0, 1) := by decide +kernel
theorem dX9_carries_22 : decode cX9_carries 22 = .ok (.iload_n 1, 1) := by decide +kernel
theorem dX9_carries_23 : decode cX9_carries 23 = .ok (.iload_n 2, 1) := by decide +kernel
theorem dX9_carries_24 : decode cX9_carries 24 = .ok (.invokevirtual 298, 3) := by decide +kernel
theorem dX9_carries_27 : decode cX9_carries 27 = .ok (.iastore, 1) := by decide +kernel
theorem dX9_carries_28 : decode cX9_carries 28 = .ok (.iinc 2 1, 3) := by decide +kernel
theorem dX9_carries_31 : decode cX9_carries 31 = .ok (.goto (-29), 3) := by decide +kernel
theorem dX9_carries_34 : decode cX9_carries 34 = .ok (.return_, 1) := by decide +kernel
theorem dX9_demand_0 : decode cX9_demand 0 = .ok (.iload_n 1, 1) := by decide +kernel
theorem dX9_demand_1 : decode cX9_demand 1 = .ok (.iconst 0, 1) := by decide +kernel
theorem dX9_demand_2 : decode cX9_demand 2 = .ok (.iconst 3, 1) := by decide +kernel
theorem dX9_demand_3 : decode cX9_demand 3 = .ok (.invokestatic 123, 3) := by decide +kernel
theorem dX9_demand_6 : decode cX9_demand 6 = .ok (.ifCond .eq 31, 3) := by decide +kernel
theorem dX9_demand_9 : decode cX9_demand 9 = .ok (.iload_n 2, 1) := by decide +kernel
theorem dX9_demand_10 : decode cX9_demand 10 = .ok (.iconst 0, 1) := by decide +kernel
theorem dX9_demand_11 : decode cX9_demand 11 = .ok (.iconst 3, 1) := by decide +kernel
theorem dX9_demand_12 : decode cX9_demand 12 = .ok (.invokestatic 123, 3) := by decide +kernel
theorem dX9_demand_15 : decode cX9_demand 15 = .ok (.ifCond .eq 22, 3) := by decide +kernel
theorem dX9_demand_18 : decode cX9_demand 18 = .ok (.iload_n 1, 1) := by decide +kernel
theorem dX9_demand_19 : decode cX9_demand 19 = .ok (.iload_n 2, 1) := by decide +kernel
theorem dX9_demand_20 : decode cX9_demand 20 = .ok (.if_icmp .eq 17, 3) := by decide +kernel
theorem dX9_demand_23 : decode cX9_demand 23 = .ok (.iload_n 3, 1) := by decide +kernel
theorem dX9_demand_24 : decode cX9_demand 24 = .ok (.iconst 1, 1) := by decide +kernel
theorem dX9_demand_25 : decode cX9_demand 25 = .ok (.bipush 8, 2) := by decide +kernel
theorem dX9_demand_27 : decode cX9_demand 27 = .ok (.invokestatic 123, 3) := by decide +kernel
theorem dX9_demand_30 : decode cX9_demand 30 = .ok (.ifCond .eq 7, 3) := by decide +kernel
theorem dX9_demand_33 : decode cX9_demand 33 = .ok (.iconst 1, 1) := by decide +kernel
theorem dX9_demand_34 : decode cX9_demand 34 = .ok (.goto 4, 3) := by decide +kernel
theorem dX9_demand_37 : decode cX9_demand 37 = .ok (.iconst 0, 1) := by decide +kernel
theorem dX9_demand_38 : decode cX9_demand 38 = .ok (.istore 4, 2) := by decide +kernel
theorem dX9_demand_40 : decode cX9_demand 40 = .ok (.aload_n 0, 1) := by decide +kernel
theorem dX9_demand_41 : decode cX9_demand 41 = .ok (.iload 4, 2) := by decide +kernel
theorem dX9_demand_43 : decode cX9_demand 43 = .ok (.ifCond .ne 7, 3) := by decide +kernel
theorem dX9_demand_46 : decode cX9_demand 46 = .ok (.iconst 1, 1) := by decide +kernel
theorem dX9_demand_47 : decode cX9_demand 47 = .ok (.goto 17, 3) := by decide +kernel
theorem dX9_demand_50 : decode cX9_demand 50 = .ok (.aload_n 0, 1) := by decide +kernel
theorem dX9_demand_51 : decode cX9_demand 51 = .ok (.getfield 286, 3) := by decide +kernel
theorem dX9_demand_54 : decode cX9_demand 54 = .ok (.bipush 10, 2) := by decide +kernel
theorem dX9_demand_56 : decode cX9_demand 56 = .ok (.if_icmp .ne 7, 3) := by decide +kernel
theorem dX9_demand_59 : decode cX9_demand 59 = .ok (.iconst 2, 1) := by decide +kernel
theorem dX9_demand_60 : decode cX9_demand 60 = .ok (.goto 4, 3) := by decide +kernel
theorem dX9_demand_63 : decode cX9_demand 63 = .ok (.iconst 0, 1) := by decide +kernel
theorem dX9_demand_64 : decode cX9_demand 64 = .ok (.putfield 120, 3) := by decide +kernel
theorem dX9_demand_67 : decode cX9_demand 67 = .ok (.aload_n 0, 1) := by decide +kernel
theorem dX9_demand_68 : decode cX9_demand 68 = .ok (.getfield 120, 3) := by decide +kernel
theorem dX9_demand_71 : decode cX9_demand 71 = .ok (.ifCond .le 5, 3) := by decide +kernel
theorem dX9_demand_74 : decode cX9_demand 74 = .ok (.iconst 0, 1) := by decide +kernel
theorem dX9_demand_75 : decode cX9_demand 75 = .ok (.ireturn, 1) := by decide +kernel
theorem dX9_demand_76 : decode cX9_demand 76 = .ok (.aload_n 0, 1) := by decide +kernel
theorem dX9_demand_77 : decode cX9_demand 77 = .ok (.getfield 105, 3) := by decide +kernel
theorem dX9_demand_80 : decode cX9_demand 80 = .ok (.aload_n 0, 1) := by decide +kernel
theorem dX9_demand_81 : decode cX9_demand 81 = .ok (.getfield 286, 3) := by decide +kernel
theorem dX9_demand_84 : decode cX9_demand 84 = .ok (.iload_n 1, 1) := by decide +kernel
theorem dX9_demand_85 : decode cX9_demand 85 = .ok (.iastore, 1) := by decide +kernel
theorem dX9_demand_86 : decode cX9_demand 86 = .ok (.aload_n 0, 1) := by decide +kernel
theorem dX9_demand_87 : decode cX9_demand 87 = .ok (.getfield 108, 3) := by decide +kernel
theorem dX9_demand_90 : decode cX9_demand 90 = .ok (.aload_n 0, 1) := by decide +kernel
theorem dX9_demand_91 : decode cX9_demand 91 = .ok (.getfield 286, 3) := by decide +kernel
theorem dX9_demand_94 : decode cX9_demand 94 = .ok (.iload_n 2, 1) := by decide +kernel
theorem dX9_demand_95 : decode cX9_demand 95 = .ok (.iastore, 1) := by decide +kernel
theorem dX9_demand_96 : decode cX9_demand 96 = .ok (.aload_n 0, 1) := by decide +kernel
theorem dX9_demand_97 : decode cX9_demand 97 = .ok (.getfield 111, 3) := by decide +kernel
theorem dX9_demand_100 : decode cX9_demand 100 = .ok (.aload_n 0, 1) := by decide +kernel
theorem dX9_demand_101 : decode cX9_demand 101 = .ok (.getfield 286, 3) := by decide +kernel
theorem dX9_demand_104 : decode cX9_demand 104 = .ok (.iload_n 3, 1) := by decide +kernel
theorem dX9_demand_105 : decode cX9_demand 105 = .ok (.iastore, 1) := by decide +kernel
theorem dX9_demand_106 : decode cX9_demand 106 = .ok (.aload_n 0, 1) := by decide +kernel
theorem dX9_demand_107 : decode cX9_demand 107 = .ok (.getfield 114, 3) := by decide +kernel
theorem dX9_demand_110 : decode cX9_demand 110 = .ok (.aload_n 0, 1) := by decide +kernel
theorem dX9_demand_111 : decode cX9_demand 111 = .ok (.getfield 286, 3) := by decide +kernel
theorem dX9_demand_114 : decode cX9_demand 114 = .ok (.iconst 0, 1) := by decide +kernel
theorem dX9_demand_115 : decode cX9_demand 115 = .ok (.iastore, 1) := by decide +kernel
theorem dX9_demand_116 : decode cX9_demand 116 = .ok (.aload_n 0, 1) := by decide +kernel
theorem dX9_demand_117 : decode cX9_demand 117 = .ok (.dup, 1) := by decide +kernel
theorem dX9_demand_118 : decode cX9_demand 118 = .ok (.getfield 286, 3) := by decide +kernel
theorem dX9_demand_121 : decode cX9_demand 121 = .ok (.iconst 1, 1) := by decide +kernel
theorem dX9_demand_122 : decode cX9_demand 122 = .ok (.iadd, 1) := by decide +kernel
theorem dX9_demand_123 : decode cX9_demand 123 = .ok (.putfield 286, 3) := by decide +kernel
theorem dX9_demand_126 : decode cX9_demand 126 = .ok (.aload_n 0, 1) := by decide +kernel
theorem dX9_demand_127 : decode cX9_demand 127 = .ok (.aload_n 0, 1) := by decide +kernel
theorem dX9_demand_128 : decode cX9_demand 128 = .ok (.getfield 286, 3) := by decide +kernel
theorem dX9_demand_131 : decode cX9_demand 131 = .ok (.iconst 1, 1) := by decide +kernel
theorem dX9_demand_132 : decode cX9_demand 132 = .ok (.isub, 1) := by decide +kernel
theorem dX9_demand_133 : decode cX9_demand 133 = .ok (.invokevirtual 301, 3) := by decide +kernel
theorem dX9_demand_136 : decode cX9_demand 136 = .ok (.aload_n 0, 1) := by decide +kernel
theorem dX9_demand_137 : decode cX9_demand 137 = .ok (.getfield 286, 3) := by decide +kernel
theorem dX9_demand_140 : decode cX9_demand 140 = .ok (.iconst 1, 1) := by decide +kernel
theorem dX9_demand_141 : decode cX9_demand 141 = .ok (.isub, 1) := by decide +kernel
theorem dX9_demand_142 : decode cX9_demand 142 = .ok (.ireturn, 1) := by decide +kernel
theorem dX9_isCarried_0 : decode cX9_isCarried 0 = .ok (.aload_n 0, 1) := by decide +kernel
theorem dX9_isCarried_1 : decode cX9_isCarried 1 = .ok (.getfield 114, 3) := by decide +kernel
theorem dX9_isCarried_4 : decode cX9_isCarried 4 = .ok (.iload_n 1, 1) := by decide +kernel
theorem dX9_isCarried_5 : decode cX9_isCarried 5 = .ok (.iaload, 1) := by decide +kernel
theorem dX9_isCarried_6 : decode cX9_isCarried 6 = .ok (.ifCond .eq 7, 3) := by decide +kernel
theorem dX9_isCarried_9 : decode cX9_isCarried 9 = .ok (.iconst 1, 1) := by decide +kernel
theorem dX9_isCarried_10 : decode cX9_isCarried 10 = .ok (.goto 4, 3) := by decide +kernel
theorem dX9_isCarried_13 : decode cX9_isCarried 13 = .ok (.iconst 0, 1) := by decide +kernel
theorem dX9_isCarried_14 : decode cX9_isCarried 14 = .ok (.istore_n 2, 1) := by decide +kernel
theorem dX9_isCarried_15 : decode cX9_isCarried 15 = .ok (.iconst 0, 1) := by decide +kernel
theorem dX9_isCarried_16 : decode cX9_isCarried 16 = .ok (.istore_n 3, 1) := by decide +kernel
theorem dX9_isCarried_17 : decode cX9_isCarried 17 = .ok (.iload_n 3, 1) := by decide +kernel
theorem dX9_isCarried_18 : decode cX9_isCarried 18 = .ok (.aload_n 0, 1) := by decide +kernel
theorem dX9_isCarried_19 : decode cX9_isCarried 19 = .ok (.getfield 89, 3) := by decide +kernel
theorem dX9_isCarried_22 : decode cX9_isCarried 22 = .ok (.if_icmp .ge 40, 3) := by decide +kernel
theorem dX9_isCarried_25 : decode cX9_isCarried 25 = .ok (.iload_n 2, 1) := by decide +kernel
theorem dX9_isCarried_26 : decode cX9_isCarried 26 = .ok (.ifCond .eq 28, 3) := by decide +kernel
theorem dX9_isCarried_29 : decode cX9_isCarried 29 = .ok (.aload_n 0, 1) := by decide +kernel
theorem dX9_isCarried_30 : decode cX9_isCarried 30 = .ok (.getfield 114, 3) := by decide +kernel
theorem dX9_isCarried_33 : decode cX9_isCarried 33 = .ok (.iload_n 1, 1) := by decide +kernel
theorem dX9_isCarried_34 : decode cX9_isCarried 34 = .ok (.iaload, 1) := by decide +kernel
theorem dX9_isCarried_35 : decode cX9_isCarried 35 = .ok (.iload_n 3, 1) := by decide +kernel
theorem dX9_isCarried_36 : decode cX9_isCarried 36 = .ok (.ishr, 1) := by decide +kernel
theorem dX9_isCarried_37 : decode cX9_isCarried 37 = .ok (.iconst 1, 1) := by decide +kernel
theorem dX9_isCarried_38 : decode cX9_isCarried 38 = .ok (.iand, 1) := by decide +kernel
theorem dX9_isCarried_39 : decode cX9_isCarried 39 = .ok (.ifCond .eq 11, 3) := by decide +kernel
theorem dX9_isCarried_42 : decode cX9_isCarried 42 = .ok (.aload_n 0, 1) := by decide +kernel
theorem dX9_isCarried_43 : decode cX9_isCarried 43 = .ok (.iload_n 3, 1) := by decide +kernel
theorem dX9_isCarried_44 : decode cX9_isCarried 44 = .ok (.invokevirtual 289, 3) := by decide +kernel
theorem dX9_isCarried_47 : decode cX9_isCarried 47 = .ok (.ifCond .ne 7, 3) := by decide +kernel
theorem dX9_isCarried_50 : decode cX9_isCarried 50 = .ok (.iconst 1, 1) := by decide +kernel
theorem dX9_isCarried_51 : decode cX9_isCarried 51 = .ok (.goto 4, 3) := by decide +kernel
theorem dX9_isCarried_54 : decode cX9_isCarried 54 = .ok (.iconst 0, 1) := by decide +kernel
theorem dX9_isCarried_55 : decode cX9_isCarried 55 = .ok (.istore_n 2, 1) := by decide +kernel
theorem dX9_isCarried_56 : decode cX9_isCarried 56 = .ok (.iinc 3 1, 3) := by decide +kernel
theorem dX9_isCarried_59 : decode cX9_isCarried 59 = .ok (.goto (-42), 3) := by decide +kernel
theorem dX9_isCarried_62 : decode cX9_isCarried 62 = .ok (.iload_n 2, 1) := by decide +kernel
theorem dX9_isCarried_63 : decode cX9_isCarried 63 = .ok (.ireturn, 1) := by decide +kernel
theorem dX9_restore_0 : decode cX9_restore 0 = .ok (.aload_n 0, 1) := by decide +kernel
theorem dX9_restore_1 : decode cX9_restore 1 = .ok (.iconst 0, 1) := by decide +kernel
theorem dX9_restore_2 : decode cX9_restore 2 = .ok (.putfield 120, 3) := by decide +kernel
theorem dX9_restore_5 : decode cX9_restore 5 = .ok (.iconst 0, 1) := by decide +kernel
theorem dX9_restore_6 : decode cX9_restore 6 = .ok (.istore_n 1, 1) := by decide +kernel
theorem dX9_restore_7 : decode cX9_restore 7 = .ok (.iload_n 1, 1) := by decide +kernel
theorem dX9_restore_8 : decode cX9_restore 8 = .ok (.aload_n 0, 1) := by decide +kernel
theorem dX9_restore_9 : decode cX9_restore 9 = .ok (.getfield 286, 3) := by decide +kernel
theorem dX9_restore_12 : decode cX9_restore 12 = .ok (.if_icmp .ge 33, 3) := by decide +kernel
theorem dX9_restore_15 : decode cX9_restore 15 = .ok (.aload_n 0, 1) := by decide +kernel
theorem dX9_restore_16 : decode cX9_restore 16 = .ok (.getfield 114, 3) := by decide +kernel
theorem dX9_restore_19 : decode cX9_restore 19 = .ok (.iload_n 1, 1) := by decide +kernel
theorem dX9_restore_20 : decode cX9_restore 20 = .ok (.aload_n 0, 1) := by decide +kernel
theorem dX9_restore_21 : decode cX9_restore 21 = .ok (.iload_n 1, 1) := by decide +kernel
theorem dX9_restore_22 : decode cX9_restore 22 = .ok (.invokevirtual 304, 3) := by decide +kernel
theorem dX9_restore_25 : decode cX9_restore 25 = .ok (.ifCond .eq 12, 3) := by decide +kernel
theorem dX9_restore_28 : decode cX9_restore 28 = .ok (.aload_n 0, 1) := by decide +kernel
theorem dX9_restore_29 : decode cX9_restore 29 = .ok (.getfield 114, 3) := by decide +kernel
theorem dX9_restore_32 : decode cX9_restore 32 = .ok (.iload_n 1, 1) := by decide +kernel
theorem dX9_restore_33 : decode cX9_restore 33 = .ok (.iaload, 1) := by decide +kernel
theorem dX9_restore_34 : decode cX9_restore 34 = .ok (.goto 4, 3) := by decide +kernel
theorem dX9_restore_37 : decode cX9_restore 37 = .ok (.iconst 0, 1) := by decide +kernel
theorem dX9_restore_38 : decode cX9_restore 38 = .ok (.iastore, 1) := by decide +kernel
theorem dX9_restore_39 : decode cX9_restore 39 = .ok (.iinc 1 1, 3) := by decide +kernel
theorem dX9_restore_42 : decode cX9_restore 42 = .ok (.goto (-35), 3) := by decide +kernel
theorem dX9_restore_45 : decode cX9_restore 45 = .ok (.iconst 0, 1) := by decide +kernel
theorem dX9_restore_46 : decode cX9_restore 46 = .ok (.istore_n 1, 1) := by decide +kernel
theorem dX9_restore_47 : decode cX9_restore 47 = .ok (.iconst 0, 1) := by decide +kernel
theorem dX9_restore_48 : decode cX9_restore 48 = .ok (.istore_n 2, 1) := by decide +kernel
theorem dX9_restore_49 : decode cX9_restore 49 = .ok (.iload_n 2, 1) := by decide +kernel
theorem dX9_restore_50 : decode cX9_restore 50 = .ok (.aload_n 0, 1) := by decide +kernel
theorem dX9_restore_51 : decode cX9_restore 51 = .ok (.getfield 286, 3) := by decide +kernel
theorem dX9_restore_54 : decode cX9_restore 54 = .ok (.if_icmp .ge 31, 3) := by decide +kernel
theorem dX9_restore_57 : decode cX9_restore 57 = .ok (.aload_n 0, 1) := by decide +kernel
theorem dX9_restore_58 : decode cX9_restore 58 = .ok (.iload_n 2, 1) := by decide +kernel
theorem dX9_restore_59 : decode cX9_restore 59 = .ok (.invokevirtual 301, 3) := by decide +kernel
theorem dX9_restore_62 : decode cX9_restore 62 = .ok (.iload_n 1, 1) := by decide +kernel
theorem dX9_restore_63 : decode cX9_restore 63 = .ok (.aload_n 0, 1) := by decide +kernel
theorem dX9_restore_64 : decode cX9_restore 64 = .ok (.getfield 114, 3) := by decide +kernel
theorem dX9_restore_67 : decode cX9_restore 67 = .ok (.iload_n 2, 1) := by decide +kernel
theorem dX9_restore_68 : decode cX9_restore 68 = .ok (.iaload, 1) := by decide +kernel
theorem dX9_restore_69 : decode cX9_restore 69 = .ok (.ifCond .ne 7, 3) := by decide +kernel
theorem dX9_restore_72 : decode cX9_restore 72 = .ok (.iconst 1, 1) := by decide +kernel
theorem dX9_restore_73 : decode cX9_restore 73 = .ok (.goto 4, 3) := by decide +kernel
theorem dX9_restore_76 : decode cX9_restore 76 = .ok (.iconst 0, 1) := by decide +kernel
theorem dX9_restore_77 : decode cX9_restore 77 = .ok (.iadd, 1) := by decide +kernel
theorem dX9_restore_78 : decode cX9_restore 78 = .ok (.istore_n 1, 1) := by decide +kernel
theorem dX9_restore_79 : decode cX9_restore 79 = .ok (.iinc 2 1, 3) := by decide +kernel
theorem dX9_restore_82 : decode cX9_restore 82 = .ok (.goto (-33), 3) := by decide +kernel
theorem dX9_restore_85 : decode cX9_restore 85 = .ok (.iload_n 1, 1) := by decide +kernel
theorem dX9_restore_86 : decode cX9_restore 86 = .ok (.ireturn, 1) := by decide +kernel
theorem dX9_way_0 : decode cX9_way 0 = .ok (.aload_n 0, 1) := by decide +kernel
theorem dX9_way_1 : decode cX9_way 1 = .ok (.iload_n 1, 1) := by decide +kernel
theorem dX9_way_2 : decode cX9_way 2 = .ok (.iconst 0, 1) := by decide +kernel
theorem dX9_way_3 : decode cX9_way 3 = .ok (.aload_n 0, 1) := by decide +kernel
theorem dX9_way_4 : decode cX9_way 4 = .ok (.getfield 286, 3) := by decide +kernel
theorem dX9_way_7 : decode cX9_way 7 = .ok (.iconst 1, 1) := by decide +kernel
theorem dX9_way_8 : decode cX9_way 8 = .ok (.isub, 1) := by decide +kernel
theorem dX9_way_9 : decode cX9_way 9 = .ok (.invokestatic 123, 3) := by decide +kernel
theorem dX9_way_12 : decode cX9_way 12 = .ok (.ifCond .eq 7, 3) := by decide +kernel
theorem dX9_way_15 : decode cX9_way 15 = .ok (.iconst 0, 1) := by decide +kernel
theorem dX9_way_16 : decode cX9_way 16 = .ok (.goto 4, 3) := by decide +kernel
theorem dX9_way_19 : decode cX9_way 19 = .ok (.iconst 1, 1) := by decide +kernel
theorem dX9_way_20 : decode cX9_way 20 = .ok (.putfield 120, 3) := by decide +kernel
theorem dX9_way_23 : decode cX9_way 23 = .ok (.aload_n 0, 1) := by decide +kernel
theorem dX9_way_24 : decode cX9_way 24 = .ok (.getfield 120, 3) := by decide +kernel
theorem dX9_way_27 : decode cX9_way 27 = .ok (.ifCond .le 7, 3) := by decide +kernel
theorem dX9_way_30 : decode cX9_way 30 = .ok (.iconst 0, 1) := by decide +kernel
theorem dX9_way_31 : decode cX9_way 31 = .ok (.goto 9, 3) := by decide +kernel
theorem dX9_way_34 : decode cX9_way 34 = .ok (.aload_n 0, 1) := by decide +kernel
theorem dX9_way_35 : decode cX9_way 35 = .ok (.getfield 114, 3) := by decide +kernel
theorem dX9_way_38 : decode cX9_way 38 = .ok (.iload_n 1, 1) := by decide +kernel
theorem dX9_way_39 : decode cX9_way 39 = .ok (.iaload, 1) := by decide +kernel
theorem dX9_way_40 : decode cX9_way 40 = .ok (.ireturn, 1) := by decide +kernel
theorem dX9_isLit_0 : decode cX9_isLit 0 = .ok (.aload_n 0, 1) := by decide +kernel
theorem dX9_isLit_1 : decode cX9_isLit 1 = .ok (.iload_n 1, 1) := by decide +kernel
theorem dX9_isLit_2 : decode cX9_isLit 2 = .ok (.iconst 0, 1) := by decide +kernel
theorem dX9_isLit_3 : decode cX9_isLit 3 = .ok (.aload_n 0, 1) := by decide +kernel
theorem dX9_isLit_4 : decode cX9_isLit 4 = .ok (.getfield 286, 3) := by decide +kernel
theorem dX9_isLit_7 : decode cX9_isLit 7 = .ok (.iconst 1, 1) := by decide +kernel
theorem dX9_isLit_8 : decode cX9_isLit 8 = .ok (.isub, 1) := by decide +kernel
theorem dX9_isLit_9 : decode cX9_isLit 9 = .ok (.invokestatic 123, 3) := by decide +kernel
theorem dX9_isLit_12 : decode cX9_isLit 12 = .ok (.ifCond .eq 7, 3) := by decide +kernel
theorem dX9_isLit_15 : decode cX9_isLit 15 = .ok (.iconst 0, 1) := by decide +kernel
theorem dX9_isLit_16 : decode cX9_isLit 16 = .ok (.goto 4, 3) := by decide +kernel
theorem dX9_isLit_19 : decode cX9_isLit 19 = .ok (.iconst 1, 1) := by decide +kernel
theorem dX9_isLit_20 : decode cX9_isLit 20 = .ok (.putfield 120, 3) := by decide +kernel
theorem dX9_isLit_23 : decode cX9_isLit 23 = .ok (.aload_n 0, 1) := by decide +kernel
theorem dX9_isLit_24 : decode cX9_isLit 24 = .ok (.getfield 120, 3) := by decide +kernel
theorem dX9_isLit_27 : decode cX9_isLit 27 = .ok (.ifCond .ne 15, 3) := by decide +kernel
theorem dX9_isLit_30 : decode cX9_isLit 30 = .ok (.aload_n 0, 1) := by decide +kernel
theorem dX9_isLit_31 : decode cX9_isLit 31 = .ok (.iload_n 1, 1) := by decide +kernel
theorem dX9_isLit_32 : decode cX9_isLit 32 = .ok (.invokevirtual 304, 3) := by decide +kernel
theorem dX9_isLit_35 : decode cX9_isLit 35 = .ok (.ifCond .eq 7, 3) := by decide +kernel
theorem dX9_isLit_38 : decode cX9_isLit 38 = .ok (.iconst 1, 1) := by decide +kernel
theorem dX9_isLit_39 : decode cX9_isLit 39 = .ok (.goto 4, 3) := by decide +kernel
theorem dX9_isLit_42 : decode cX9_isLit 42 = .ok (.iconst 0, 1) := by decide +kernel
theorem dX9_isLit_43 : decode cX9_isLit 43 = .ok (.ireturn, 1) := by decide +kernel
theorem dX9_day_0 : decode cX9_day 0 = .ok (.aload_n 0, 1) := by decide +kernel
theorem dX9_day_1 : decode cX9_day 1 = .ok (.iconst 0, 1) := by decide +kernel
theorem dX9_day_2 : decode cX9_day 2 = .ok (.putfield 120, 3) := by decide +kernel
theorem dX9_day_5 : decode cX9_day 5 = .ok (.aload_n 0, 1) := by decide +kernel
theorem dX9_day_6 : decode cX9_day 6 = .ok (.getfield 139, 3) := by decide +kernel
theorem dX9_day_9 : decode cX9_day 9 = .ok (.ireturn, 1) := by decide +kernel
theorem dX9_waves_0 : decode cX9_waves 0 = .ok (.aload_n 0, 1) := by decide +kernel
theorem dX9_waves_1 : decode cX9_waves 1 = .ok (.iconst 0, 1) := by decide +kernel
theorem dX9_waves_2 : decode cX9_waves 2 = .ok (.putfield 120, 3) := by decide +kernel
theorem dX9_waves_5 : decode cX9_waves 5 = .ok (.aload_n 0, 1) := by decide +kernel
theorem dX9_waves_6 : decode cX9_waves 6 = .ok (.getfield 142, 3) := by decide +kernel
theorem dX9_waves_9 : decode cX9_waves 9 = .ok (.bipush 10, 2) := by decide +kernel
theorem dX9_waves_11 : decode cX9_waves 11 = .ok (.irem, 1) := by decide +kernel
theorem dX9_waves_12 : decode cX9_waves 12 = .ok (.ireturn, 1) := by decide +kernel
theorem dX9_canWork_0 : decode cX9_canWork 0 = .ok (.aload_n 0, 1) := by decide +kernel
theorem dX9_canWork_1 : decode cX9_canWork 1 = .ok (.iconst 0, 1) := by decide +kernel
theorem dX9_canWork_2 : decode cX9_canWork 2 = .ok (.putfield 120, 3) := by decide +kernel
theorem dX9_canWork_5 : decode cX9_canWork 5 = .ok (.aload_n 0, 1) := by decide +kernel
theorem dX9_canWork_6 : decode cX9_canWork 6 = .ok (.invokevirtual 207, 3) := by decide +kernel
theorem dX9_canWork_9 : decode cX9_canWork 9 = .ok (.ireturn, 1) := by decide +kernel
theorem dX9_cell_0 : decode cX9_cell 0 = .ok (.aload_n 0, 1) := by decide +kernel
theorem dX9_cell_1 : decode cX9_cell 1 = .ok (.iload_n 1, 1) := by decide +kernel
theorem dX9_cell_2 : decode cX9_cell 2 = .ok (.invokestatic 131, 3) := by decide +kernel
theorem dX9_cell_5 : decode cX9_cell 5 = .ok (.ifCond .eq 16, 3) := by decide +kernel
theorem dX9_cell_8 : decode cX9_cell 8 = .ok (.iload_n 2, 1) := by decide +kernel
theorem dX9_cell_9 : decode cX9_cell 9 = .ok (.iconst 0, 1) := by decide +kernel
theorem dX9_cell_10 : decode cX9_cell 10 = .ok (.iconst 3, 1) := by decide +kernel
theorem dX9_cell_11 : decode cX9_cell 11 = .ok (.invokestatic 123, 3) := by decide +kernel
theorem dX9_cell_14 : decode cX9_cell 14 = .ok (.ifCond .eq 7, 3) := by decide +kernel
theorem dX9_cell_17 : decode cX9_cell 17 = .ok (.iconst 0, 1) := by decide +kernel
theorem dX9_cell_18 : decode cX9_cell 18 = .ok (.goto 4, 3) := by decide +kernel
theorem dX9_cell_21 : decode cX9_cell 21 = .ok (.iconst 1, 1) := by decide +kernel
theorem dX9_cell_22 : decode cX9_cell 22 = .ok (.putfield 120, 3) := by decide +kernel
theorem dX9_cell_25 : decode cX9_cell 25 = .ok (.aload_n 0, 1) := by decide +kernel
theorem dX9_cell_26 : decode cX9_cell 26 = .ok (.getfield 120, 3) := by decide +kernel
theorem dX9_cell_29 : decode cX9_cell 29 = .ok (.ifCond .le 5, 3) := by decide +kernel
theorem dX9_cell_32 : decode cX9_cell 32 = .ok (.iconst 0, 1) := by decide +kernel
theorem dX9_cell_33 : decode cX9_cell 33 = .ok (.ireturn, 1) := by decide +kernel
theorem dX9_cell_34 : decode cX9_cell 34 = .ok (.iload_n 2, 1) := by decide +kernel
theorem dX9_cell_35 : decode cX9_cell 35 = .ok (.iconst 2, 1) := by decide +kernel
theorem dX9_cell_36 : decode cX9_cell 36 = .ok (.if_icmp .ge 21, 3) := by decide +kernel
theorem dX9_cell_39 : decode cX9_cell 39 = .ok (.iload_n 2, 1) := by decide +kernel
theorem dX9_cell_40 : decode cX9_cell 40 = .ok (.ifCond .ne 11, 3) := by decide +kernel
theorem dX9_cell_43 : decode cX9_cell 43 = .ok (.aload_n 0, 1) := by decide +kernel
theorem dX9_cell_44 : decode cX9_cell 44 = .ok (.iload_n 1, 1) := by decide +kernel
theorem dX9_cell_45 : decode cX9_cell 45 = .ok (.invokevirtual 127, 3) := by decide +kernel
theorem dX9_cell_48 : decode cX9_cell 48 = .ok (.goto 8, 3) := by decide +kernel
theorem dX9_cell_51 : decode cX9_cell 51 = .ok (.aload_n 0, 1) := by decide +kernel
theorem dX9_cell_52 : decode cX9_cell 52 = .ok (.iload_n 1, 1) := by decide +kernel
theorem dX9_cell_53 : decode cX9_cell 53 = .ok (.invokevirtual 210, 3) := by decide +kernel
theorem dX9_cell_56 : decode cX9_cell 56 = .ok (.ireturn, 1) := by decide +kernel
theorem dX9_cell_57 : decode cX9_cell 57 = .ok (.iload_n 1, 1) := by decide +kernel
theorem dX9_cell_58 : decode cX9_cell 58 = .ok (.aload_n 0, 1) := by decide +kernel
theorem dX9_cell_59 : decode cX9_cell 59 = .ok (.getfield 135, 3) := by decide +kernel
theorem dX9_cell_62 : decode cX9_cell 62 = .ok (.if_icmp .lt 7, 3) := by decide +kernel
theorem dX9_cell_65 : decode cX9_cell 65 = .ok (.iconst (-1), 1) := by decide +kernel
theorem dX9_cell_66 : decode cX9_cell 66 = .ok (.goto 22, 3) := by decide +kernel
theorem dX9_cell_69 : decode cX9_cell 69 = .ok (.iload_n 2, 1) := by decide +kernel
theorem dX9_cell_70 : decode cX9_cell 70 = .ok (.iconst 2, 1) := by decide +kernel
theorem dX9_cell_71 : decode cX9_cell 71 = .ok (.if_icmp .ne 11, 3) := by decide +kernel
theorem dX9_cell_74 : decode cX9_cell 74 = .ok (.aload_n 0, 1) := by decide +kernel
theorem dX9_cell_75 : decode cX9_cell 75 = .ok (.iload_n 1, 1) := by decide +kernel
theorem dX9_cell_76 : decode cX9_cell 76 = .ok (.invokevirtual 266, 3) := by decide +kernel
theorem dX9_cell_79 : decode cX9_cell 79 = .ok (.goto 9, 3) := by decide +kernel
theorem dX9_cell_82 : decode cX9_cell 82 = .ok (.aload_n 0, 1) := by decide +kernel
theorem dX9_cell_83 : decode cX9_cell 83 = .ok (.getfield 74, 3) := by decide +kernel
theorem dX9_cell_86 : decode cX9_cell 86 = .ok (.iload_n 1, 1) := by decide +kernel
theorem dX9_cell_87 : decode cX9_cell 87 = .ok (.iaload, 1) := by decide +kernel
theorem dX9_cell_88 : decode cX9_cell 88 = .ok (.ireturn, 1) := by decide +kernel
theorem dX9_tension_0 : decode cX9_tension 0 = .ok (.aload_n 0, 1) := by decide +kernel
theorem dX9_tension_1 : decode cX9_tension 1 = .ok (.iload_n 1, 1) := by decide +kernel
theorem dX9_tension_2 : decode cX9_tension 2 = .ok (.iconst 0, 1) := by decide +kernel
theorem dX9_tension_3 : decode cX9_tension 3 = .ok (.iconst 3, 1) := by decide +kernel
theorem dX9_tension_4 : decode cX9_tension 4 = .ok (.invokestatic 123, 3) := by decide +kernel
theorem dX9_tension_7 : decode cX9_tension 7 = .ok (.ifCond .eq 14, 3) := by decide +kernel
theorem dX9_tension_10 : decode cX9_tension 10 = .ok (.iload_n 2, 1) := by decide +kernel
theorem dX9_tension_11 : decode cX9_tension 11 = .ok (.invokestatic 131, 3) := by decide +kernel
theorem dX9_tension_14 : decode cX9_tension 14 = .ok (.ifCond .eq 7, 3) := by decide +kernel
theorem dX9_tension_17 : decode cX9_tension 17 = .ok (.iconst 0, 1) := by decide +kernel
theorem dX9_tension_18 : decode cX9_tension 18 = .ok (.goto 4, 3) := by decide +kernel
theorem dX9_tension_21 : decode cX9_tension 21 = .ok (.iconst 1, 1) := by decide +kernel
theorem dX9_tension_22 : decode cX9_tension 22 = .ok (.putfield 120, 3) := by decide +kernel
theorem dX9_tension_25 : decode cX9_tension 25 = .ok (.aload_n 0, 1) := by decide +kernel
theorem dX9_tension_26 : decode cX9_tension 26 = .ok (.getfield 120, 3) := by decide +kernel
theorem dX9_tension_29 : decode cX9_tension 29 = .ok (.ifCond .le 7, 3) := by decide +kernel
theorem dX9_tension_32 : decode cX9_tension 32 = .ok (.iconst 0, 1) := by decide +kernel
theorem dX9_tension_33 : decode cX9_tension 33 = .ok (.goto 12, 3) := by decide +kernel
theorem dX9_tension_36 : decode cX9_tension 36 = .ok (.iload_n 1, 1) := by decide +kernel
theorem dX9_tension_37 : decode cX9_tension 37 = .ok (.aload_n 0, 1) := by decide +kernel
theorem dX9_tension_38 : decode cX9_tension 38 = .ok (.iload_n 2, 1) := by decide +kernel
theorem dX9_tension_39 : decode cX9_tension 39 = .ok (.invokevirtual 127, 3) := by decide +kernel
theorem dX9_tension_42 : decode cX9_tension 42 = .ok (.invokestatic 196, 3) := by decide +kernel
theorem dX9_tension_45 : decode cX9_tension 45 = .ok (.ireturn, 1) := by decide +kernel
theorem dX9_tank_0 : decode cX9_tank 0 = .ok (.aload_n 0, 1) := by decide +kernel
theorem dX9_tank_1 : decode cX9_tank 1 = .ok (.iload_n 1, 1) := by decide +kernel
theorem dX9_tank_2 : decode cX9_tank 2 = .ok (.iconst 0, 1) := by decide +kernel
theorem dX9_tank_3 : decode cX9_tank 3 = .ok (.iconst 2, 1) := by decide +kernel
theorem dX9_tank_4 : decode cX9_tank 4 = .ok (.invokestatic 123, 3) := by decide +kernel
theorem dX9_tank_7 : decode cX9_tank 7 = .ok (.ifCond .eq 16, 3) := by decide +kernel
theorem dX9_tank_10 : decode cX9_tank 10 = .ok (.iload_n 2, 1) := by decide +kernel
theorem dX9_tank_11 : decode cX9_tank 11 = .ok (.iconst 0, 1) := by decide +kernel
theorem dX9_tank_12 : decode cX9_tank 12 = .ok (.iconst 4, 1) := by decide +kernel
theorem dX9_tank_13 : decode cX9_tank 13 = .ok (.invokestatic 123, 3) := by decide +kernel
theorem dX9_tank_16 : decode cX9_tank 16 = .ok (.ifCond .eq 7, 3) := by decide +kernel
theorem dX9_tank_19 : decode cX9_tank 19 = .ok (.iconst 0, 1) := by decide +kernel
theorem dX9_tank_20 : decode cX9_tank 20 = .ok (.goto 4, 3) := by decide +kernel
theorem dX9_tank_23 : decode cX9_tank 23 = .ok (.iconst 1, 1) := by decide +kernel
theorem dX9_tank_24 : decode cX9_tank 24 = .ok (.putfield 120, 3) := by decide +kernel
theorem dX9_tank_27 : decode cX9_tank 27 = .ok (.aload_n 0, 1) := by decide +kernel
theorem dX9_tank_28 : decode cX9_tank 28 = .ok (.getfield 120, 3) := by decide +kernel
theorem dX9_tank_31 : decode cX9_tank 31 = .ok (.ifCond .le 5, 3) := by decide +kernel
theorem dX9_tank_34 : decode cX9_tank 34 = .ok (.iconst 0, 1) := by decide +kernel
theorem dX9_tank_35 : decode cX9_tank 35 = .ok (.ireturn, 1) := by decide +kernel
theorem dX9_tank_36 : decode cX9_tank 36 = .ok (.bipush 30, 2) := by decide +kernel
theorem dX9_tank_38 : decode cX9_tank 38 = .ok (.iload_n 1, 1) := by decide +kernel
theorem dX9_tank_39 : decode cX9_tank 39 = .ok (.imul, 1) := by decide +kernel
theorem dX9_tank_40 : decode cX9_tank 40 = .ok (.aload_n 0, 1) := by decide +kernel
theorem dX9_tank_41 : decode cX9_tank 41 = .ok (.getfield 29, 3) := by decide +kernel
theorem dX9_tank_44 : decode cX9_tank 44 = .ok (.iload_n 1, 1) := by decide +kernel
theorem dX9_tank_45 : decode cX9_tank 45 = .ok (.iaload, 1) := by decide +kernel
theorem dX9_tank_46 : decode cX9_tank 46 = .ok (.iadd, 1) := by decide +kernel
theorem dX9_tank_47 : decode cX9_tank 47 = .ok (.iconst 1, 1) := by decide +kernel
theorem dX9_tank_48 : decode cX9_tank 48 = .ok (.isub, 1) := by decide +kernel
theorem dX9_tank_49 : decode cX9_tank 49 = .ok (.istore_n 3, 1) := by decide +kernel
theorem dX9_tank_50 : decode cX9_tank 50 = .ok (.iload_n 2, 1) := by decide +kernel
theorem dX9_tank_51 : decode cX9_tank 51 = .ok (.iconst 2, 1) := by decide +kernel
theorem dX9_tank_52 : decode cX9_tank 52 = .ok (.if_icmp .ge 22, 3) := by decide +kernel
theorem dX9_tank_55 : decode cX9_tank 55 = .ok (.iload_n 2, 1) := by decide +kernel
theorem dX9_tank_56 : decode cX9_tank 56 = .ok (.ifCond .ne 11, 3) := by decide +kernel
theorem dX9_tank_59 : decode cX9_tank 59 = .ok (.aload_n 0, 1) := by decide +kernel
theorem dX9_tank_60 : decode cX9_tank 60 = .ok (.iload_n 1, 1) := by decide +kernel
theorem dX9_tank_61 : decode cX9_tank 61 = .ok (.invokevirtual 307, 3) := by decide +kernel
theorem dX9_tank_64 : decode cX9_tank 64 = .ok (.goto 9, 3) := by decide +kernel
theorem dX9_tank_67 : decode cX9_tank 67 = .ok (.aload_n 0, 1) := by decide +kernel
theorem dX9_tank_68 : decode cX9_tank 68 = .ok (.getfield 29, 3) := by decide +kernel
theorem dX9_tank_71 : decode cX9_tank 71 = .ok (.iload_n 1, 1) := by decide +kernel
theorem dX9_tank_72 : decode cX9_tank 72 = .ok (.iaload, 1) := by decide +kernel
theorem dX9_tank_73 : decode cX9_tank 73 = .ok (.ireturn, 1) := by decide +kernel
theorem dX9_tank_74 : decode cX9_tank 74 = .ok (.aload_n 0, 1) := by decide +kernel
theorem dX9_tank_75 : decode cX9_tank 75 = .ok (.getfield 29, 3) := by decide +kernel
theorem dX9_tank_78 : decode cX9_tank 78 = .ok (.iload_n 1, 1) := by decide +kernel
theorem dX9_tank_79 : decode cX9_tank 79 = .ok (.iaload, 1) := by decide +kernel
theorem dX9_tank_80 : decode cX9_tank 80 = .ok (.ifCond .ne 7, 3) := by decide +kernel
theorem dX9_tank_83 : decode cX9_tank 83 = .ok (.iconst (-1), 1) := by decide +kernel
theorem dX9_tank_84 : decode cX9_tank 84 = .ok (.goto 42, 3) := by decide +kernel
theorem dX9_tank_87 : decode cX9_tank 87 = .ok (.iload_n 2, 1) := by decide +kernel
theorem dX9_tank_88 : decode cX9_tank 88 = .ok (.iconst 2, 1) := by decide +kernel
theorem dX9_tank_89 : decode cX9_tank 89 = .ok (.if_icmp .ne 17, 3) := by decide +kernel
theorem dX9_tank_92 : decode cX9_tank 92 = .ok (.aload_n 0, 1) := by decide +kernel
theorem dX9_tank_93 : decode cX9_tank 93 = .ok (.getfield 26, 3) := by decide +kernel
theorem dX9_tank_96 : decode cX9_tank 96 = .ok (.aload_n 0, 1) := by decide +kernel
theorem dX9_tank_97 : decode cX9_tank 97 = .ok (.getfield 32, 3) := by decide +kernel
theorem dX9_tank_100 : decode cX9_tank 100 = .ok (.iload_n 3, 1) := by decide +kernel
theorem dX9_tank_101 : decode cX9_tank 101 = .ok (.iaload, 1) := by decide +kernel
theorem dX9_tank_102 : decode cX9_tank 102 = .ok (.iaload, 1) := by decide +kernel
theorem dX9_tank_103 : decode cX9_tank 103 = .ok (.goto 23, 3) := by decide +kernel
theorem dX9_tank_106 : decode cX9_tank 106 = .ok (.iload_n 2, 1) := by decide +kernel
theorem dX9_tank_107 : decode cX9_tank 107 = .ok (.iconst 3, 1) := by decide +kernel
theorem dX9_tank_108 : decode cX9_tank 108 = .ok (.if_icmp .ne 12, 3) := by decide +kernel
theorem dX9_tank_111 : decode cX9_tank 111 = .ok (.aload_n 0, 1) := by decide +kernel
theorem dX9_tank_112 : decode cX9_tank 112 = .ok (.getfield 32, 3) := by decide +kernel
theorem dX9_tank_115 : decode cX9_tank 115 = .ok (.iload_n 3, 1) := by decide +kernel
theorem dX9_tank_116 : decode cX9_tank 116 = .ok (.iaload, 1) := by decide +kernel
theorem dX9_tank_117 : decode cX9_tank 117 = .ok (.goto 9, 3) := by decide +kernel
theorem dX9_tank_120 : decode cX9_tank 120 = .ok (.aload_n 0, 1) := by decide +kernel
theorem dX9_tank_121 : decode cX9_tank 121 = .ok (.getfield 35, 3) := by decide +kernel
theorem dX9_tank_124 : decode cX9_tank 124 = .ok (.iload_n 3, 1) := by decide +kernel
theorem dX9_tank_125 : decode cX9_tank 125 = .ok (.iaload, 1) := by decide +kernel
theorem dX9_tank_126 : decode cX9_tank 126 = .ok (.ireturn, 1) := by decide +kernel
theorem dX9_line_0 : decode cX9_line 0 = .ok (.aload_n 0, 1) := by decide +kernel
theorem dX9_line_1 : decode cX9_line 1 = .ok (.iload_n 1, 1) := by decide +kernel
theorem dX9_line_2 : decode cX9_line 2 = .ok (.iconst 0, 1) := by decide +kernel
theorem dX9_line_3 : decode cX9_line 3 = .ok (.bipush 7, 2) := by decide +kernel
theorem dX9_line_5 : decode cX9_line 5 = .ok (.invokestatic 123, 3) := by decide +kernel
theorem dX9_line_8 : decode cX9_line 8 = .ok (.ifCond .eq 7, 3) := by decide +kernel
theorem dX9_line_11 : decode cX9_line 11 = .ok (.iconst 0, 1) := by decide +kernel
theorem dX9_line_12 : decode cX9_line 12 = .ok (.goto 4, 3) := by decide +kernel
theorem dX9_line_15 : decode cX9_line 15 = .ok (.iconst 1, 1) := by decide +kernel
theorem dX9_line_16 : decode cX9_line 16 = .ok (.putfield 120, 3) := by decide +kernel
theorem dX9_line_19 : decode cX9_line 19 = .ok (.aload_n 0, 1) := by decide +kernel
theorem dX9_line_20 : decode cX9_line 20 = .ok (.getfield 120, 3) := by decide +kernel
theorem dX9_line_23 : decode cX9_line 23 = .ok (.ifCond .le 5, 3) := by decide +kernel
theorem dX9_line_26 : decode cX9_line 26 = .ok (.iconst 0, 1) := by decide +kernel
theorem dX9_line_27 : decode cX9_line 27 = .ok (.ireturn, 1) := by decide +kernel
theorem dX9_line_28 : decode cX9_line 28 = .ok (.iload_n 1, 1) := by decide +kernel
theorem dX9_line_29 : decode cX9_line 29 = .ok (.tableswitch 89 0 6 #[43, 48, 53, 58, 64, 70, 76], 43) := by decide +kernel
theorem dX9_line_72 : decode cX9_line 72 = .ok (.aload_n 0, 1) := by decide +kernel
theorem dX9_line_73 : decode cX9_line 73 = .ok (.invokevirtual 160, 3) := by decide +kernel
theorem dX9_line_76 : decode cX9_line 76 = .ok (.ireturn, 1) := by decide +kernel
theorem dX9_line_77 : decode cX9_line 77 = .ok (.aload_n 0, 1) := by decide +kernel
theorem dX9_line_78 : decode cX9_line 78 = .ok (.getfield 135, 3) := by decide +kernel
theorem dX9_line_81 : decode cX9_line 81 = .ok (.ireturn, 1) := by decide +kernel
theorem dX9_line_82 : decode cX9_line 82 = .ok (.aload_n 0, 1) := by decide +kernel
theorem dX9_line_83 : decode cX9_line 83 = .ok (.getfield 171, 3) := by decide +kernel
theorem dX9_line_86 : decode cX9_line 86 = .ok (.ireturn, 1) := by decide +kernel
theorem dX9_line_87 : decode cX9_line 87 = .ok (.aload_n 0, 1) := by decide +kernel
theorem dX9_line_88 : decode cX9_line 88 = .ok (.iconst 1, 1) := by decide +kernel
theorem dX9_line_89 : decode cX9_line 89 = .ok (.invokevirtual 236, 3) := by decide +kernel
theorem dX9_line_92 : decode cX9_line 92 = .ok (.ireturn, 1) := by decide +kernel
theorem dX9_line_93 : decode cX9_line 93 = .ok (.aload_n 0, 1) := by decide +kernel
theorem dX9_line_94 : decode cX9_line 94 = .ok (.iconst 2, 1) := by decide +kernel
theorem dX9_line_95 : decode cX9_line 95 = .ok (.invokevirtual 236, 3) := by decide +kernel
theorem dX9_line_98 : decode cX9_line 98 = .ok (.ireturn, 1) := by decide +kernel
theorem dX9_line_99 : decode cX9_line 99 = .ok (.aload_n 0, 1) := by decide +kernel
theorem dX9_line_100 : decode cX9_line 100 = .ok (.getfield 167, 3) := by decide +kernel
theorem dX9_line_103 : decode cX9_line 103 = .ok (.l2i, 1) := by decide +kernel
theorem dX9_line_104 : decode cX9_line 104 = .ok (.ireturn, 1) := by decide +kernel
theorem dX9_line_105 : decode cX9_line 105 = .ok (.aload_n 0, 1) := by decide +kernel
theorem dX9_line_106 : decode cX9_line 106 = .ok (.getfield 153, 3) := by decide +kernel
theorem dX9_line_109 : decode cX9_line 109 = .ok (.ifCond .eq 7, 3) := by decide +kernel
theorem dX9_line_112 : decode cX9_line 112 = .ok (.iconst 1, 1) := by decide +kernel
theorem dX9_line_113 : decode cX9_line 113 = .ok (.goto 4, 3) := by decide +kernel
theorem dX9_line_116 : decode cX9_line 116 = .ok (.iconst 0, 1) := by decide +kernel
theorem dX9_line_117 : decode cX9_line 117 = .ok (.ireturn, 1) := by decide +kernel
theorem dX9_line_118 : decode cX9_line 118 = .ok (.aload_n 0, 1) := by decide +kernel
theorem dX9_line_119 : decode cX9_line 119 = .ok (.getfield 164, 3) := by decide +kernel
theorem dX9_line_122 : decode cX9_line 122 = .ok (.ireturn, 1) := by decide +kernel
theorem dX9_thing_0 : decode cX9_thing 0 = .ok (.aload_n 0, 1) := by decide +kernel
theorem dX9_thing_1 : decode cX9_thing 1 = .ok (.iload_n 1, 1) := by decide +kernel
theorem dX9_thing_2 : decode cX9_thing 2 = .ok (.iconst 0, 1) := by decide +kernel
theorem dX9_thing_3 : decode cX9_thing 3 = .ok (.aload_n 0, 1) := by decide +kernel
theorem dX9_thing_4 : decode cX9_thing 4 = .ok (.getfield 171, 3) := by decide +kernel
theorem dX9_thing_7 : decode cX9_thing 7 = .ok (.iconst 1, 1) := by decide +kernel
theorem dX9_thing_8 : decode cX9_thing 8 = .ok (.isub, 1) := by decide +kernel
theorem dX9_thing_9 : decode cX9_thing 9 = .ok (.invokestatic 123, 3) := by decide +kernel
theorem dX9_thing_12 : decode cX9_thing 12 = .ok (.ifCond .ne 7, 3) := by decide +kernel
theorem dX9_thing_15 : decode cX9_thing 15 = .ok (.iconst 1, 1) := by decide +kernel
theorem dX9_thing_16 : decode cX9_thing 16 = .ok (.goto 17, 3) := by decide +kernel
theorem dX9_thing_19 : decode cX9_thing 19 = .ok (.iload_n 2, 1) := by decide +kernel
theorem dX9_thing_20 : decode cX9_thing 20 = .ok (.iconst 0, 1) := by decide +kernel
theorem dX9_thing_21 : decode cX9_thing 21 = .ok (.iconst 3, 1) := by decide +kernel
theorem dX9_thing_22 : decode cX9_thing 22 = .ok (.invokestatic 123, 3) := by decide +kernel
theorem dX9_thing_25 : decode cX9_thing 25 = .ok (.ifCond .ne 7, 3) := by decide +kernel
theorem dX9_thing_28 : decode cX9_thing 28 = .ok (.iconst 2, 1) := by decide +kernel
theorem dX9_thing_29 : decode cX9_thing 29 = .ok (.goto 4, 3) := by decide +kernel
theorem dX9_thing_32 : decode cX9_thing 32 = .ok (.iconst 0, 1) := by decide +kernel
theorem dX9_thing_33 : decode cX9_thing 33 = .ok (.putfield 120, 3) := by decide +kernel
theorem dX9_thing_36 : decode cX9_thing 36 = .ok (.aload_n 0, 1) := by decide +kernel
theorem dX9_thing_37 : decode cX9_thing 37 = .ok (.getfield 120, 3) := by decide +kernel
theorem dX9_thing_40 : decode cX9_thing 40 = .ok (.ifCond .le 5, 3) := by decide +kernel
theorem dX9_thing_43 : decode cX9_thing 43 = .ok (.iconst 0, 1) := by decide +kernel
theorem dX9_thing_44 : decode cX9_thing 44 = .ok (.ireturn, 1) := by decide +kernel
theorem dX9_thing_45 : decode cX9_thing 45 = .ok (.iload_n 2, 1) := by decide +kernel
theorem dX9_thing_46 : decode cX9_thing 46 = .ok (.ifCond .ne 12, 3) := by decide +kernel
theorem dX9_thing_49 : decode cX9_thing 49 = .ok (.aload_n 0, 1) := by decide +kernel
theorem dX9_thing_50 : decode cX9_thing 50 = .ok (.getfield 50, 3) := by decide +kernel
theorem dX9_thing_53 : decode cX9_thing 53 = .ok (.iload_n 1, 1) := by decide +kernel
theorem dX9_thing_54 : decode cX9_thing 54 = .ok (.iaload, 1) := by decide +kernel
theorem dX9_thing_55 : decode cX9_thing 55 = .ok (.goto 37, 3) := by decide +kernel
theorem dX9_thing_58 : decode cX9_thing 58 = .ok (.iload_n 2, 1) := by decide +kernel
theorem dX9_thing_59 : decode cX9_thing 59 = .ok (.iconst 1, 1) := by decide +kernel
theorem dX9_thing_60 : decode cX9_thing 60 = .ok (.if_icmp .ne 12, 3) := by decide +kernel
theorem dX9_thing_63 : decode cX9_thing 63 = .ok (.aload_n 0, 1) := by decide +kernel
theorem dX9_thing_64 : decode cX9_thing 64 = .ok (.getfield 53, 3) := by decide +kernel
theorem dX9_thing_67 : decode cX9_thing 67 = .ok (.iload_n 1, 1) := by decide +kernel
theorem dX9_thing_68 : decode cX9_thing 68 = .ok (.iaload, 1) := by decide +kernel
theorem dX9_thing_69 : decode cX9_thing 69 = .ok (.goto 23, 3) := by decide +kernel
theorem dX9_thing_72 : decode cX9_thing 72 = .ok (.iload_n 2, 1) := by decide +kernel
theorem dX9_thing_73 : decode cX9_thing 73 = .ok (.iconst 2, 1) := by decide +kernel
theorem dX9_thing_74 : decode cX9_thing 74 = .ok (.if_icmp .ne 12, 3) := by decide +kernel
theorem dX9_thing_77 : decode cX9_thing 77 = .ok (.aload_n 0, 1) := by decide +kernel
theorem dX9_thing_78 : decode cX9_thing 78 = .ok (.getfield 56, 3) := by decide +kernel
theorem dX9_thing_81 : decode cX9_thing 81 = .ok (.iload_n 1, 1) := by decide +kernel
theorem dX9_thing_82 : decode cX9_thing 82 = .ok (.iaload, 1) := by decide +kernel
theorem dX9_thing_83 : decode cX9_thing 83 = .ok (.goto 9, 3) := by decide +kernel
theorem dX9_thing_86 : decode cX9_thing 86 = .ok (.aload_n 0, 1) := by decide +kernel
theorem dX9_thing_87 : decode cX9_thing 87 = .ok (.getfield 59, 3) := by decide +kernel
theorem dX9_thing_90 : decode cX9_thing 90 = .ok (.iload_n 1, 1) := by decide +kernel
theorem dX9_thing_91 : decode cX9_thing 91 = .ok (.iaload, 1) := by decide +kernel
theorem dX9_thing_92 : decode cX9_thing 92 = .ok (.ireturn, 1) := by decide +kernel
theorem dX9_metreAt_0 : decode cX9_metreAt 0 = .ok (.iconst 0, 1) := by decide +kernel
theorem dX9_metreAt_1 : decode cX9_metreAt 1 = .ok (.istore_n 2, 1) := by decide +kernel
theorem dX9_metreAt_2 : decode cX9_metreAt 2 = .ok (.iconst 0, 1) := by decide +kernel
theorem dX9_metreAt_3 : decode cX9_metreAt 3 = .ok (.istore_n 3, 1) := by decide +kernel
theorem dX9_metreAt_4 : decode cX9_metreAt 4 = .ok (.iload_n 3, 1) := by decide +kernel
theorem dX9_metreAt_5 : decode cX9_metreAt 5 = .ok (.aload_n 0, 1) := by decide +kernel
theorem dX9_metreAt_6 : decode cX9_metreAt 6 = .ok (.getfield 171, 3) := by decide +kernel
theorem dX9_metreAt_9 : decode cX9_metreAt 9 = .ok (.if_icmp .ge 51, 3) := by decide +kernel
theorem dX9_metreAt_12 : decode cX9_metreAt 12 = .ok (.aload_n 0, 1) := by decide +kernel
theorem dX9_metreAt_13 : decode cX9_metreAt 13 = .ok (.iload_n 3, 1) := by decide +kernel
theorem dX9_metreAt_14 : decode cX9_metreAt 14 = .ok (.invokevirtual 174, 3) := by decide +kernel
theorem dX9_metreAt_17 : decode cX9_metreAt 17 = .ok (.istore 4, 2) := by decide +kernel
theorem dX9_metreAt_19 : decode cX9_metreAt 19 = .ok (.iload_n 2, 1) := by decide +kernel
theorem dX9_metreAt_20 : decode cX9_metreAt 20 = .ok (.iload 4, 2) := by decide +kernel
theorem dX9_metreAt_22 : decode cX9_metreAt 22 = .ok (.iadd, 1) := by decide +kernel
theorem dX9_metreAt_23 : decode cX9_metreAt 23 = .ok (.iload_n 1, 1) := by decide +kernel
theorem dX9_metreAt_24 : decode cX9_metreAt 24 = .ok (.if_icmp .le 25, 3) := by decide +kernel
theorem dX9_metreAt_27 : decode cX9_metreAt 27 = .ok (.ldc_w 310, 3) := by decide +kernel
theorem dX9_metreAt_30 : decode cX9_metreAt 30 = .ok (.aload_n 0, 1) := by decide +kernel
theorem dX9_metreAt_31 : decode cX9_metreAt 31 = .ok (.getfield 53, 3) := by decide +kernel
theorem dX9_metreAt_34 : decode cX9_metreAt 34 = .ok (.iload_n 3, 1) := by decide +kernel
theorem dX9_metreAt_35 : decode cX9_metreAt 35 = .ok (.iaload, 1) := by decide +kernel
theorem dX9_metreAt_36 : decode cX9_metreAt 36 = .ok (.imul, 1) := by decide +kernel
theorem dX9_metreAt_37 : decode cX9_metreAt 37 = .ok (.aload_n 0, 1) := by decide +kernel
theorem dX9_metreAt_38 : decode cX9_metreAt 38 = .ok (.getfield 56, 3) := by decide +kernel
theorem dX9_metreAt_41 : decode cX9_metreAt 41 = .ok (.iload_n 3, 1) := by decide +kernel
theorem dX9_metreAt_42 : decode cX9_metreAt 42 = .ok (.iaload, 1) := by decide +kernel
theorem dX9_metreAt_43 : decode cX9_metreAt 43 = .ok (.iadd, 1) := by decide +kernel
theorem dX9_metreAt_44 : decode cX9_metreAt 44 = .ok (.iload_n 1, 1) := by decide +kernel
theorem dX9_metreAt_45 : decode cX9_metreAt 45 = .ok (.iadd, 1) := by decide +kernel
theorem dX9_metreAt_46 : decode cX9_metreAt 46 = .ok (.iload_n 2, 1) := by decide +kernel
theorem dX9_metreAt_47 : decode cX9_metreAt 47 = .ok (.isub, 1) := by decide +kernel
theorem dX9_metreAt_48 : decode cX9_metreAt 48 = .ok (.ireturn, 1) := by decide +kernel
theorem dX9_metreAt_49 : decode cX9_metreAt 49 = .ok (.iload_n 2, 1) := by decide +kernel
theorem dX9_metreAt_50 : decode cX9_metreAt 50 = .ok (.iload 4, 2) := by decide +kernel
theorem dX9_metreAt_52 : decode cX9_metreAt 52 = .ok (.iadd, 1) := by decide +kernel
theorem dX9_metreAt_53 : decode cX9_metreAt 53 = .ok (.istore_n 2, 1) := by decide +kernel
theorem dX9_metreAt_54 : decode cX9_metreAt 54 = .ok (.iinc 3 1, 3) := by decide +kernel
theorem dX9_metreAt_57 : decode cX9_metreAt 57 = .ok (.goto (-53), 3) := by decide +kernel
theorem dX9_metreAt_60 : decode cX9_metreAt 60 = .ok (.iconst (-1), 1) := by decide +kernel
theorem dX9_metreAt_61 : decode cX9_metreAt 61 = .ok (.ireturn, 1) := by decide +kernel
theorem dX9_metre_0 : decode cX9_metre 0 = .ok (.aload_n 0, 1) := by decide +kernel
theorem dX9_metre_1 : decode cX9_metre 1 = .ok (.iload_n 1, 1) := by decide +kernel
theorem dX9_metre_2 : decode cX9_metre 2 = .ok (.iconst 0, 1) := by decide +kernel
theorem dX9_metre_3 : decode cX9_metre 3 = .ok (.aload_n 0, 1) := by decide +kernel
theorem dX9_metre_4 : decode cX9_metre 4 = .ok (.invokevirtual 160, 3) := by decide +kernel
theorem dX9_metre_7 : decode cX9_metre 7 = .ok (.iconst 1, 1) := by decide +kernel
theorem dX9_metre_8 : decode cX9_metre 8 = .ok (.isub, 1) := by decide +kernel
theorem dX9_metre_9 : decode cX9_metre 9 = .ok (.invokestatic 123, 3) := by decide +kernel
theorem dX9_metre_12 : decode cX9_metre 12 = .ok (.ifCond .eq 7, 3) := by decide +kernel
theorem dX9_metre_15 : decode cX9_metre 15 = .ok (.iconst 0, 1) := by decide +kernel
theorem dX9_metre_16 : decode cX9_metre 16 = .ok (.goto 4, 3) := by decide +kernel
theorem dX9_metre_19 : decode cX9_metre 19 = .ok (.iconst 1, 1) := by decide +kernel
theorem dX9_metre_20 : decode cX9_metre 20 = .ok (.putfield 120, 3) := by decide +kernel
theorem dX9_metre_23 : decode cX9_metre 23 = .ok (.aload_n 0, 1) := by decide +kernel
theorem dX9_metre_24 : decode cX9_metre 24 = .ok (.getfield 120, 3) := by decide +kernel
theorem dX9_metre_27 : decode cX9_metre 27 = .ok (.ifCond .le 7, 3) := by decide +kernel
theorem dX9_metre_30 : decode cX9_metre 30 = .ok (.iconst 0, 1) := by decide +kernel
theorem dX9_metre_31 : decode cX9_metre 31 = .ok (.goto 8, 3) := by decide +kernel
theorem dX9_metre_34 : decode cX9_metre 34 = .ok (.aload_n 0, 1) := by decide +kernel
theorem dX9_metre_35 : decode cX9_metre 35 = .ok (.iload_n 1, 1) := by decide +kernel
theorem dX9_metre_36 : decode cX9_metre 36 = .ok (.invokevirtual 311, 3) := by decide +kernel
theorem dX9_metre_39 : decode cX9_metre 39 = .ok (.ireturn, 1) := by decide +kernel
theorem dX9_metreAnew_0 : decode cX9_metreAnew 0 = .ok (.aload_n 0, 1) := by decide +kernel
theorem dX9_metreAnew_1 : decode cX9_metreAnew 1 = .ok (.iload_n 1, 1) := by decide +kernel
theorem dX9_metreAnew_2 : decode cX9_metreAnew 2 = .ok (.iconst 0, 1) := by decide +kernel
theorem dX9_metreAnew_3 : decode cX9_metreAnew 3 = .ok (.aload_n 0, 1) := by decide +kernel
theorem dX9_metreAnew_4 : decode cX9_metreAnew 4 = .ok (.invokevirtual 160, 3) := by decide +kernel
theorem dX9_metreAnew_7 : decode cX9_metreAnew 7 = .ok (.iconst 1, 1) := by decide +kernel
theorem dX9_metreAnew_8 : decode cX9_metreAnew 8 = .ok (.isub, 1) := by decide +kernel
theorem dX9_metreAnew_9 : decode cX9_metreAnew 9 = .ok (.invokestatic 123, 3) := by decide +kernel
theorem dX9_metreAnew_12 : decode cX9_metreAnew 12 = .ok (.ifCond .eq 7, 3) := by decide +kernel
theorem dX9_metreAnew_15 : decode cX9_metreAnew 15 = .ok (.iconst 0, 1) := by decide +kernel
theorem dX9_metreAnew_16 : decode cX9_metreAnew 16 = .ok (.goto 4, 3) := by decide +kernel
theorem dX9_metreAnew_19 : decode cX9_metreAnew 19 = .ok (.iconst 1, 1) := by decide +kernel
theorem dX9_metreAnew_20 : decode cX9_metreAnew 20 = .ok (.putfield 120, 3) := by decide +kernel
theorem dX9_metreAnew_23 : decode cX9_metreAnew 23 = .ok (.aload_n 0, 1) := by decide +kernel
theorem dX9_metreAnew_24 : decode cX9_metreAnew 24 = .ok (.getfield 120, 3) := by decide +kernel
theorem dX9_metreAnew_27 : decode cX9_metreAnew 27 = .ok (.ifCond .le 7, 3) := by decide +kernel
theorem dX9_metreAnew_30 : decode cX9_metreAnew 30 = .ok (.iconst 0, 1) := by decide +kernel
theorem dX9_metreAnew_31 : decode cX9_metreAnew 31 = .ok (.goto 8, 3) := by decide +kernel
theorem dX9_metreAnew_34 : decode cX9_metreAnew 34 = .ok (.aload_n 0, 1) := by decide +kernel
theorem dX9_metreAnew_35 : decode cX9_metreAnew 35 = .ok (.iload_n 1, 1) := by decide +kernel
theorem dX9_metreAnew_36 : decode cX9_metreAnew 36 = .ok (.invokevirtual 311, 3) := by decide +kernel
theorem dX9_metreAnew_39 : decode cX9_metreAnew 39 = .ok (.ireturn, 1) := by decide +kernel
theorem dX9_ofFault_0 : decode cX9_ofFault 0 = .ok (.aload_n 0, 1) := by decide +kernel
theorem dX9_ofFault_1 : decode cX9_ofFault 1 = .ok (.iload_n 1, 1) := by decide +kernel
theorem dX9_ofFault_2 : decode cX9_ofFault 2 = .ok (.iconst 0, 1) := by decide +kernel
theorem dX9_ofFault_3 : decode cX9_ofFault 3 = .ok (.aload_n 0, 1) := by decide +kernel
theorem dX9_ofFault_4 : decode cX9_ofFault 4 = .ok (.getfield 177, 3) := by decide +kernel
theorem dX9_ofFault_7 : decode cX9_ofFault 7 = .ok (.iconst 1, 1) := by decide +kernel
theorem dX9_ofFault_8 : decode cX9_ofFault 8 = .ok (.isub, 1) := by decide +kernel
theorem dX9_ofFault_9 : decode cX9_ofFault 9 = .ok (.invokestatic 123, 3) := by decide +kernel
theorem dX9_ofFault_12 : decode cX9_ofFault 12 = .ok (.ifCond .ne 7, 3) := by decide +kernel
theorem dX9_ofFault_15 : decode cX9_ofFault 15 = .ok (.iconst 1, 1) := by decide +kernel
theorem dX9_ofFault_16 : decode cX9_ofFault 16 = .ok (.goto 17, 3) := by decide +kernel
theorem dX9_ofFault_19 : decode cX9_ofFault 19 = .ok (.iload_n 2, 1) := by decide +kernel
theorem dX9_ofFault_20 : decode cX9_ofFault 20 = .ok (.iconst 0, 1) := by decide +kernel
theorem dX9_ofFault_21 : decode cX9_ofFault 21 = .ok (.iconst 2, 1) := by decide +kernel
theorem dX9_ofFault_22 : decode cX9_ofFault 22 = .ok (.invokestatic 123, 3) := by decide +kernel
theorem dX9_ofFault_25 : decode cX9_ofFault 25 = .ok (.ifCond .ne 7, 3) := by decide +kernel
theorem dX9_ofFault_28 : decode cX9_ofFault 28 = .ok (.iconst 2, 1) := by decide +kernel
theorem dX9_ofFault_29 : decode cX9_ofFault 29 = .ok (.goto 4, 3) := by decide +kernel
theorem dX9_ofFault_32 : decode cX9_ofFault 32 = .ok (.iconst 0, 1) := by decide +kernel
theorem dX9_ofFault_33 : decode cX9_ofFault 33 = .ok (.putfield 120, 3) := by decide +kernel
theorem dX9_ofFault_36 : decode cX9_ofFault 36 = .ok (.aload_n 0, 1) := by decide +kernel
theorem dX9_ofFault_37 : decode cX9_ofFault 37 = .ok (.getfield 120, 3) := by decide +kernel
theorem dX9_ofFault_40 : decode cX9_ofFault 40 = .ok (.ifCond .le 5, 3) := by decide +kernel
theorem dX9_ofFault_43 : decode cX9_ofFault 43 = .ok (.iconst 0, 1) := by decide +kernel
theorem dX9_ofFault_44 : decode cX9_ofFault 44 = .ok (.ireturn, 1) := by decide +kernel
theorem dX9_ofFault_45 : decode cX9_ofFault 45 = .ok (.iload_n 2, 1) := by decide +kernel
theorem dX9_ofFault_46 : decode cX9_ofFault 46 = .ok (.ifCond .ne 12, 3) := by decide +kernel
theorem dX9_ofFault_49 : decode cX9_ofFault 49 = .ok (.aload_n 0, 1) := by decide +kernel
theorem dX9_ofFault_50 : decode cX9_ofFault 50 = .ok (.getfield 77, 3) := by decide +kernel
theorem dX9_ofFault_53 : decode cX9_ofFault 53 = .ok (.iload_n 1, 1) := by decide +kernel
theorem dX9_ofFault_54 : decode cX9_ofFault 54 = .ok (.iaload, 1) := by decide +kernel
theorem dX9_ofFault_55 : decode cX9_ofFault 55 = .ok (.goto 23, 3) := by decide +kernel
theorem dX9_ofFault_58 : decode cX9_ofFault 58 = .ok (.iload_n 2, 1) := by decide +kernel
theorem dX9_ofFault_59 : decode cX9_ofFault 59 = .ok (.iconst 1, 1) := by decide +kernel
theorem dX9_ofFault_60 : decode cX9_ofFault 60 = .ok (.if_icmp .ne 12, 3) := by decide +kernel
theorem dX9_ofFault_63 : decode cX9_ofFault 63 = .ok (.aload_n 0, 1) := by decide +kernel
theorem dX9_ofFault_64 : decode cX9_ofFault 64 = .ok (.getfield 83, 3) := by decide +kernel
theorem dX9_ofFault_67 : decode cX9_ofFault 67 = .ok (.iload_n 1, 1) := by decide +kernel
theorem dX9_ofFault_68 : decode cX9_ofFault 68 = .ok (.iaload, 1) := by decide +kernel
theorem dX9_ofFault_69 : decode cX9_ofFault 69 = .ok (.goto 9, 3) := by decide +kernel
theorem dX9_ofFault_72 : decode cX9_ofFault 72 = .ok (.aload_n 0, 1) := by decide +kernel
theorem dX9_ofFault_73 : decode cX9_ofFault 73 = .ok (.getfield 86, 3) := by decide +kernel
theorem dX9_ofFault_76 : decode cX9_ofFault 76 = .ok (.iload_n 1, 1) := by decide +kernel
theorem dX9_ofFault_77 : decode cX9_ofFault 77 = .ok (.iaload, 1) := by decide +kernel
theorem dX9_ofFault_78 : decode cX9_ofFault 78 = .ok (.ireturn, 1) := by decide +kernel
theorem dX9_faults_0 : decode cX9_faults 0 = .ok (.aload_n 0, 1) := by decide +kernel
theorem dX9_faults_1 : decode cX9_faults 1 = .ok (.iconst 0, 1) := by decide +kernel
theorem dX9_faults_2 : decode cX9_faults 2 = .ok (.putfield 120, 3) := by decide +kernel
theorem dX9_faults_5 : decode cX9_faults 5 = .ok (.aload_n 0, 1) := by decide +kernel
theorem dX9_faults_6 : decode cX9_faults 6 = .ok (.getfield 177, 3) := by decide +kernel
theorem dX9_faults_9 : decode cX9_faults 9 = .ok (.ireturn, 1) := by decide +kernel
theorem dX9_isKept_0 : decode cX9_isKept 0 = .ok (.aload_n 0, 1) := by decide +kernel
theorem dX9_isKept_1 : decode cX9_isKept 1 = .ok (.iconst 0, 1) := by decide +kernel
theorem dX9_isKept_2 : decode cX9_isKept 2 = .ok (.putfield 120, 3) := by decide +kernel
theorem dX9_isKept_5 : decode cX9_isKept 5 = .ok (.aload_n 0, 1) := by decide +kernel
theorem dX9_isKept_6 : decode cX9_isKept 6 = .ok (.getfield 190, 3) := by decide +kernel
theorem dX9_isKept_9 : decode cX9_isKept 9 = .ok (.aload_n 0, 1) := by decide +kernel
theorem dX9_isKept_10 : decode cX9_isKept 10 = .ok (.iconst 0, 1) := by decide +kernel
theorem dX9_isKept_11 : decode cX9_isKept 11 = .ok (.invokevirtual 307, 3) := by decide +kernel
theorem dX9_isKept_14 : decode cX9_isKept 14 = .ok (.i2l, 1) := by decide +kernel
theorem dX9_isKept_15 : decode cX9_isKept 15 = .ok (.aload_n 0, 1) := by decide +kernel
theorem dX9_isKept_16 : decode cX9_isKept 16 = .ok (.iconst 1, 1) := by decide +kernel
theorem dX9_isKept_17 : decode cX9_isKept 17 = .ok (.invokevirtual 307, 3) := by decide +kernel
theorem dX9_isKept_20 : decode cX9_isKept 20 = .ok (.i2l, 1) := by decide +kernel
theorem dX9_isKept_21 : decode cX9_isKept 21 = .ok (.ladd, 1) := by decide +kernel
theorem dX9_isKept_22 : decode cX9_isKept 22 = .ok (.aload_n 0, 1) := by decide +kernel
theorem dX9_isKept_23 : decode cX9_isKept 23 = .ok (.iconst 2, 1) := by decide +kernel
theorem dX9_isKept_24 : decode cX9_isKept 24 = .ok (.invokevirtual 307, 3) := by decide +kernel
theorem dX9_isKept_27 : decode cX9_isKept 27 = .ok (.i2l, 1) := by decide +kernel
theorem dX9_isKept_28 : decode cX9_isKept 28 = .ok (.ladd, 1) := by decide +kernel
theorem dX9_isKept_29 : decode cX9_isKept 29 = .ok (.aload_n 0, 1) := by decide +kernel
theorem dX9_isKept_30 : decode cX9_isKept 30 = .ok (.invokevirtual 160, 3) := by decide +kernel
theorem dX9_isKept_33 : decode cX9_isKept 33 = .ok (.i2l, 1) := by decide +kernel
theorem dX9_isKept_34 : decode cX9_isKept 34 = .ok (.ladd, 1) := by decide +kernel
theorem dX9_isKept_35 : decode cX9_isKept 35 = .ok (.aload_n 0, 1) := by decide +kernel
theorem dX9_isKept_36 : decode cX9_isKept 36 = .ok (.getfield 167, 3) := by decide +kernel
theorem dX9_isKept_39 : decode cX9_isKept 39 = .ok (.ladd, 1) := by decide +kernel
theorem dX9_isKept_40 : decode cX9_isKept 40 = .ok (.lcmp, 1) := by decide +kernel
theorem dX9_isKept_41 : decode cX9_isKept 41 = .ok (.ifCond .ne 7, 3) := by decide +kernel
theorem dX9_isKept_44 : decode cX9_isKept 44 = .ok (.iconst 1, 1) := by decide +kernel
theorem dX9_isKept_45 : decode cX9_isKept 45 = .ok (.goto 4, 3) := by decide +kernel
theorem dX9_isKept_48 : decode cX9_isKept 48 = .ok (.iconst 0, 1) := by decide +kernel
theorem dX9_isKept_49 : decode cX9_isKept 49 = .ok (.ireturn, 1) := by decide +kernel
