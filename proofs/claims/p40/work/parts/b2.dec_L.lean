theorem dL_cell_0 : decode cL_cell 0 = .ok (.iload_n 1, 1) := by decide +kernel
theorem dL_cell_1 : decode cL_cell 1 = .ok (.aload_n 0, 1) := by decide +kernel
theorem dL_cell_2 : decode cL_cell 2 = .ok (.arraylength, 1) := by decide +kernel
theorem dL_cell_3 : decode cL_cell 3 = .ok (.if_icmp .ge 9, 3) := by decide +kernel
theorem dL_cell_6 : decode cL_cell 6 = .ok (.aload_n 0, 1) := by decide +kernel
theorem dL_cell_7 : decode cL_cell 7 = .ok (.iload_n 1, 1) := by decide +kernel
theorem dL_cell_8 : decode cL_cell 8 = .ok (.iaload, 1) := by decide +kernel
theorem dL_cell_9 : decode cL_cell 9 = .ok (.goto 12, 3) := by decide +kernel
theorem dL_cell_12 : decode cL_cell 12 = .ok (.ldc 7, 2) := by decide +kernel
theorem dL_cell_14 : decode cL_cell 14 = .ok (.iload_n 1, 1) := by decide +kernel
theorem dL_cell_15 : decode cL_cell 15 = .ok (.iconst 1, 1) := by decide +kernel
theorem dL_cell_16 : decode cL_cell 16 = .ok (.iadd, 1) := by decide +kernel
theorem dL_cell_17 : decode cL_cell 17 = .ok (.imul, 1) := by decide +kernel
theorem dL_cell_18 : decode cL_cell 18 = .ok (.ldc 8, 2) := by decide +kernel
theorem dL_cell_20 : decode cL_cell 20 = .ok (.iadd, 1) := by decide +kernel
theorem dL_cell_21 : decode cL_cell 21 = .ok (.ireturn, 1) := by decide +kernel
theorem dL_low_0 : decode cL_low 0 = .ok (.iload_n 0, 1) := by decide +kernel
theorem dL_low_1 : decode cL_low 1 = .ok (.ldc 9, 2) := by decide +kernel
theorem dL_low_3 : decode cL_low 3 = .ok (.iand, 1) := by decide +kernel
theorem dL_low_4 : decode cL_low 4 = .ok (.iload_n 1, 1) := by decide +kernel
theorem dL_low_5 : decode cL_low 5 = .ok (.irem, 1) := by decide +kernel
theorem dL_low_6 : decode cL_low 6 = .ok (.ireturn, 1) := by decide +kernel
theorem dL_depth_0 : decode cL_depth 0 = .ok (.aload_n 0, 1) := by decide +kernel
theorem dL_depth_1 : decode cL_depth 1 = .ok (.iload_n 1, 1) := by decide +kernel
theorem dL_depth_2 : decode cL_depth 2 = .ok (.iaload, 1) := by decide +kernel
theorem dL_depth_3 : decode cL_depth 3 = .ok (.ifCond .ne 8, 3) := by decide +kernel
theorem dL_depth_6 : decode cL_depth 6 = .ok (.bipush 100, 2) := by decide +kernel
theorem dL_depth_8 : decode cL_depth 8 = .ok (.goto 6, 3) := by decide +kernel
theorem dL_depth_11 : decode cL_depth 11 = .ok (.aload_n 0, 1) := by decide +kernel
theorem dL_depth_12 : decode cL_depth 12 = .ok (.iload_n 1, 1) := by decide +kernel
theorem dL_depth_13 : decode cL_depth 13 = .ok (.iaload, 1) := by decide +kernel
theorem dL_depth_14 : decode cL_depth 14 = .ok (.ireturn, 1) := by decide +kernel
theorem dL_due_0 : decode cL_due 0 = .ok (.aload_n 0, 1) := by decide +kernel
theorem dL_due_1 : decode cL_due 1 = .ok (.iload_n 1, 1) := by decide +kernel
theorem dL_due_2 : decode cL_due 2 = .ok (.invokestatic 10, 3) := by decide +kernel
theorem dL_due_5 : decode cL_due 5 = .ok (.iload_n 1, 1) := by decide +kernel
theorem dL_due_6 : decode cL_due 6 = .ok (.ifCond .ne 7, 3) := by decide +kernel
theorem dL_due_9 : decode cL_due 9 = .ok (.iconst 0, 1) := by decide +kernel
theorem dL_due_10 : decode cL_due 10 = .ok (.goto 10, 3) := by decide +kernel
theorem dL_due_13 : decode cL_due 13 = .ok (.aload_n 0, 1) := by decide +kernel
theorem dL_due_14 : decode cL_due 14 = .ok (.iload_n 1, 1) := by decide +kernel
theorem dL_due_15 : decode cL_due 15 = .ok (.iconst 1, 1) := by decide +kernel
theorem dL_due_16 : decode cL_due 16 = .ok (.isub, 1) := by decide +kernel
theorem dL_due_17 : decode cL_due 17 = .ok (.invokestatic 10, 3) := by decide +kernel
theorem dL_due_20 : decode cL_due 20 = .ok (.isub, 1) := by decide +kernel
theorem dL_due_21 : decode cL_due 21 = .ok (.istore_n 3, 1) := by decide +kernel
theorem dL_due_22 : decode cL_due 22 = .ok (.sipush 1000, 3) := by decide +kernel
theorem dL_due_25 : decode cL_due 25 = .ok (.iload_n 3, 1) := by decide +kernel
theorem dL_due_26 : decode cL_due 26 = .ok (.iload_n 3, 1) := by decide +kernel
theorem dL_due_27 : decode cL_due 27 = .ok (.imul, 1) := by decide +kernel
theorem dL_due_28 : decode cL_due 28 = .ok (.sipush 2000, 3) := by decide +kernel
theorem dL_due_31 : decode cL_due 31 = .ok (.idiv, 1) := by decide +kernel
theorem dL_due_32 : decode cL_due 32 = .ok (.iadd, 1) := by decide +kernel
theorem dL_due_33 : decode cL_due 33 = .ok (.istore 4, 2) := by decide +kernel
theorem dL_due_35 : decode cL_due 35 = .ok (.iload 4, 2) := by decide +kernel
theorem dL_due_37 : decode cL_due 37 = .ok (.iload 4, 2) := by decide +kernel
theorem dL_due_39 : decode cL_due 39 = .ok (.iload_n 2, 1) := by decide +kernel
theorem dL_due_40 : decode cL_due 40 = .ok (.imul, 1) := by decide +kernel
theorem dL_due_41 : decode cL_due 41 = .ok (.sipush 1000, 3) := by decide +kernel
theorem dL_due_44 : decode cL_due 44 = .ok (.idiv, 1) := by decide +kernel
theorem dL_due_45 : decode cL_due 45 = .ok (.iadd, 1) := by decide +kernel
theorem dL_due_46 : decode cL_due 46 = .ok (.ireturn, 1) := by decide +kernel
theorem dL_works_0 : decode cL_works 0 = .ok (.aload_n 0, 1) := by decide +kernel
theorem dL_works_1 : decode cL_works 1 = .ok (.iconst 4, 1) := by decide +kernel
theorem dL_works_2 : decode cL_works 2 = .ok (.iaload, 1) := by decide +kernel
theorem dL_works_3 : decode cL_works 3 = .ok (.bipush 10, 2) := by decide +kernel
theorem dL_works_5 : decode cL_works 5 = .ok (.irem, 1) := by decide +kernel
theorem dL_works_6 : decode cL_works 6 = .ok (.bipush 7, 2) := by decide +kernel
theorem dL_works_8 : decode cL_works 8 = .ok (.if_icmp .ge 17, 3) := by decide +kernel
theorem dL_works_11 : decode cL_works 11 = .ok (.aload_n 0, 1) := by decide +kernel
theorem dL_works_12 : decode cL_works 12 = .ok (.iconst 3, 1) := by decide +kernel
theorem dL_works_13 : decode cL_works 13 = .ok (.iaload, 1) := by decide +kernel
theorem dL_works_14 : decode cL_works 14 = .ok (.aload_n 0, 1) := by decide +kernel
theorem dL_works_15 : decode cL_works 15 = .ok (.bipush 10, 2) := by decide +kernel
theorem dL_works_17 : decode cL_works 17 = .ok (.iaload, 1) := by decide +kernel
theorem dL_works_18 : decode cL_works 18 = .ok (.if_icmp .lt 7, 3) := by decide +kernel
theorem dL_works_21 : decode cL_works 21 = .ok (.iconst 1, 1) := by decide +kernel
theorem dL_works_22 : decode cL_works 22 = .ok (.goto 4, 3) := by decide +kernel
theorem dL_works_25 : decode cL_works 25 = .ok (.iconst 0, 1) := by decide +kernel
theorem dL_works_26 : decode cL_works 26 = .ok (.ireturn, 1) := by decide +kernel
theorem dL_line_0 : decode cL_line 0 = .ok (.iconst 0, 1) := by decide +kernel
theorem dL_line_1 : decode cL_line 1 = .ok (.istore_n 2, 1) := by decide +kernel
theorem dL_line_2 : decode cL_line 2 = .ok (.iconst 0, 1) := by decide +kernel
theorem dL_line_3 : decode cL_line 3 = .ok (.istore_n 3, 1) := by decide +kernel
theorem dL_line_4 : decode cL_line 4 = .ok (.iload_n 3, 1) := by decide +kernel
theorem dL_line_5 : decode cL_line 5 = .ok (.aload_n 1, 1) := by decide +kernel
theorem dL_line_6 : decode cL_line 6 = .ok (.bipush 6, 2) := by decide +kernel
theorem dL_line_8 : decode cL_line 8 = .ok (.iaload, 1) := by decide +kernel
theorem dL_line_9 : decode cL_line 9 = .ok (.if_icmp .ge 15, 3) := by decide +kernel
theorem dL_line_12 : decode cL_line 12 = .ok (.iload_n 2, 1) := by decide +kernel
theorem dL_line_13 : decode cL_line 13 = .ok (.aload_n 0, 1) := by decide +kernel
theorem dL_line_14 : decode cL_line 14 = .ok (.iload_n 3, 1) := by decide +kernel
theorem dL_line_15 : decode cL_line 15 = .ok (.iaload, 1) := by decide +kernel
theorem dL_line_16 : decode cL_line 16 = .ok (.iadd, 1) := by decide +kernel
theorem dL_line_17 : decode cL_line 17 = .ok (.istore_n 2, 1) := by decide +kernel
theorem dL_line_18 : decode cL_line 18 = .ok (.iinc 3 1, 3) := by decide +kernel
theorem dL_line_21 : decode cL_line 21 = .ok (.goto (-17), 3) := by decide +kernel
theorem dL_line_24 : decode cL_line 24 = .ok (.iload_n 2, 1) := by decide +kernel
theorem dL_line_25 : decode cL_line 25 = .ok (.ireturn, 1) := by decide +kernel
theorem dL_right_0 : decode cL_right 0 = .ok (.aload_n 2, 1) := by decide +kernel
theorem dL_right_1 : decode cL_right 1 = .ok (.aload_n 3, 1) := by decide +kernel
theorem dL_right_2 : decode cL_right 2 = .ok (.invokestatic 16, 3) := by decide +kernel
theorem dL_right_5 : decode cL_right 5 = .ok (.istore 4, 2) := by decide +kernel
theorem dL_right_7 : decode cL_right 7 = .ok (.aload_n 0, 1) := by decide +kernel
theorem dL_right_8 : decode cL_right 8 = .ok (.iconst 0, 1) := by decide +kernel
theorem dL_right_9 : decode cL_right 9 = .ok (.invokevirtual 20, 3) := by decide +kernel
theorem dL_right_12 : decode cL_right 12 = .ok (.iload 4, 2) := by decide +kernel
theorem dL_right_14 : decode cL_right 14 = .ok (.if_icmp .ne 106, 3) := by decide +kernel
theorem dL_right_17 : decode cL_right 17 = .ok (.aload_n 0, 1) := by decide +kernel
theorem dL_right_18 : decode cL_right 18 = .ok (.iconst 1, 1) := by decide +kernel
theorem dL_right_19 : decode cL_right 19 = .ok (.invokevirtual 20, 3) := by decide +kernel
theorem dL_right_22 : decode cL_right 22 = .ok (.aload_n 3, 1) := by decide +kernel
theorem dL_right_23 : decode cL_right 23 = .ok (.bipush 6, 2) := by decide +kernel
theorem dL_right_25 : decode cL_right 25 = .ok (.iaload, 1) := by decide +kernel
theorem dL_right_26 : decode cL_right 26 = .ok (.if_icmp .ne 94, 3) := by decide +kernel
theorem dL_right_29 : decode cL_right 29 = .ok (.aload_n 0, 1) := by decide +kernel
theorem dL_right_30 : decode cL_right 30 = .ok (.iconst 4, 1) := by decide +kernel
theorem dL_right_31 : decode cL_right 31 = .ok (.invokevirtual 20, 3) := by decide +kernel
theorem dL_right_34 : decode cL_right 34 = .ok (.aload_n 3, 1) := by decide +kernel
theorem dL_right_35 : decode cL_right 35 = .ok (.bipush 11, 2) := by decide +kernel
theorem dL_right_37 : decode cL_right 37 = .ok (.iaload, 1) := by decide +kernel
theorem dL_right_38 : decode cL_right 38 = .ok (.if_icmp .ne 82, 3) := by decide +kernel
theorem dL_right_41 : decode cL_right 41 = .ok (.aload_n 0, 1) := by decide +kernel
theorem dL_right_42 : decode cL_right 42 = .ok (.iconst 5, 1) := by decide +kernel
theorem dL_right_43 : decode cL_right 43 = .ok (.invokevirtual 20, 3) := by decide +kernel
theorem dL_right_46 : decode cL_right 46 = .ok (.aload_n 3, 1) := by decide +kernel
theorem dL_right_47 : decode cL_right 47 = .ok (.bipush 9, 2) := by decide +kernel
theorem dL_right_49 : decode cL_right 49 = .ok (.iaload, 1) := by decide +kernel
theorem dL_right_50 : decode cL_right 50 = .ok (.if_icmp .ne 70, 3) := by decide +kernel
theorem dL_right_53 : decode cL_right 53 = .ok (.aload_n 0, 1) := by decide +kernel
theorem dL_right_54 : decode cL_right 54 = .ok (.bipush 6, 2) := by decide +kernel
theorem dL_right_56 : decode cL_right 56 = .ok (.invokevirtual 20, 3) := by decide +kernel
theorem dL_right_59 : decode cL_right 59 = .ok (.aload_n 3, 1) := by decide +kernel
theorem dL_right_60 : decode cL_right 60 = .ok (.bipush 7, 2) := by decide +kernel
theorem dL_right_62 : decode cL_right 62 = .ok (.iaload, 1) := by decide +kernel
theorem dL_right_63 : decode cL_right 63 = .ok (.if_icmp .ne 57, 3) := by decide +kernel
theorem dL_right_66 : decode cL_right 66 = .ok (.aload_n 0, 1) := by decide +kernel
theorem dL_right_67 : decode cL_right 67 = .ok (.bipush 7, 2) := by decide +kernel
theorem dL_right_69 : decode cL_right 69 = .ok (.invokevirtual 20, 3) := by decide +kernel
theorem dL_right_72 : decode cL_right 72 = .ok (.aload_n 3, 1) := by decide +kernel
theorem dL_right_73 : decode cL_right 73 = .ok (.bipush 8, 2) := by decide +kernel
theorem dL_right_75 : decode cL_right 75 = .ok (.iaload, 1) := by decide +kernel
theorem dL_right_76 : decode cL_right 76 = .ok (.if_icmp .ne 44, 3) := by decide +kernel
theorem dL_right_79 : decode cL_right 79 = .ok (.aload_n 0, 1) := by decide +kernel
theorem dL_right_80 : decode cL_right 80 = .ok (.invokevirtual 25, 3) := by decide +kernel
theorem dL_right_83 : decode cL_right 83 = .ok (.aload_n 3, 1) := by decide +kernel
theorem dL_right_84 : decode cL_right 84 = .ok (.iconst 3, 1) := by decide +kernel
theorem dL_right_85 : decode cL_right 85 = .ok (.iaload, 1) := by decide +kernel
theorem dL_right_86 : decode cL_right 86 = .ok (.if_icmp .ne 34, 3) := by decide +kernel
theorem dL_right_89 : decode cL_right 89 = .ok (.aload_n 0, 1) := by decide +kernel
theorem dL_right_90 : decode cL_right 90 = .ok (.invokevirtual 29, 3) := by decide +kernel
theorem dL_right_93 : decode cL_right 93 = .ok (.aload_n 3, 1) := by decide +kernel
theorem dL_right_94 : decode cL_right 94 = .ok (.iconst 4, 1) := by decide +kernel
theorem dL_right_95 : decode cL_right 95 = .ok (.iaload, 1) := by decide +kernel
theorem dL_right_96 : decode cL_right 96 = .ok (.bipush 10, 2) := by decide +kernel
theorem dL_right_98 : decode cL_right 98 = .ok (.irem, 1) := by decide +kernel
theorem dL_right_99 : decode cL_right 99 = .ok (.if_icmp .ne 21, 3) := by decide +kernel
theorem dL_right_102 : decode cL_right 102 = .ok (.aload_n 0, 1) := by decide +kernel
theorem dL_right_103 : decode cL_right 103 = .ok (.invokevirtual 32, 3) := by decide +kernel
theorem dL_right_106 : decode cL_right 106 = .ok (.aload_n 3, 1) := by decide +kernel
theorem dL_right_107 : decode cL_right 107 = .ok (.invokestatic 36, 3) := by decide +kernel
theorem dL_right_110 : decode cL_right 110 = .ok (.if_icmp .ne 10, 3) := by decide +kernel
theorem dL_right_113 : decode cL_right 113 = .ok (.aload_n 0, 1) := by decide +kernel
theorem dL_right_114 : decode cL_right 114 = .ok (.invokevirtual 40, 3) := by decide +kernel
theorem dL_right_117 : decode cL_right 117 = .ok (.ifCond .ne 5, 3) := by decide +kernel
theorem dL_right_120 : decode cL_right 120 = .ok (.iconst 0, 1) := by decide +kernel
theorem dL_right_121 : decode cL_right 121 = .ok (.ireturn, 1) := by decide +kernel
theorem dL_right_122 : decode cL_right 122 = .ok (.iconst 0, 1) := by decide +kernel
theorem dL_right_123 : decode cL_right 123 = .ok (.istore 5, 2) := by decide +kernel
theorem dL_right_125 : decode cL_right 125 = .ok (.iload 5, 2) := by decide +kernel
theorem dL_right_127 : decode cL_right 127 = .ok (.iconst 3, 1) := by decide +kernel
theorem dL_right_128 : decode cL_right 128 = .ok (.if_icmp .ge 25, 3) := by decide +kernel
theorem dL_right_131 : decode cL_right 131 = .ok (.aload_n 0, 1) := by decide +kernel
theorem dL_right_132 : decode cL_right 132 = .ok (.iload 5, 2) := by decide +kernel
theorem dL_right_134 : decode cL_right 134 = .ok (.iconst 0, 1) := by decide +kernel
theorem dL_right_135 : decode cL_right 135 = .ok (.invokevirtual 43, 3) := by decide +kernel
theorem dL_right_138 : decode cL_right 138 = .ok (.aload_n 3, 1) := by decide +kernel
theorem dL_right_139 : decode cL_right 139 = .ok (.iload 5, 2) := by decide +kernel
theorem dL_right_141 : decode cL_right 141 = .ok (.iaload, 1) := by decide +kernel
theorem dL_right_142 : decode cL_right 142 = .ok (.if_icmp .eq 5, 3) := by decide +kernel
theorem dL_right_145 : decode cL_right 145 = .ok (.iconst 0, 1) := by decide +kernel
theorem dL_right_146 : decode cL_right 146 = .ok (.ireturn, 1) := by decide +kernel
theorem dL_right_147 : decode cL_right 147 = .ok (.iinc 5 1, 3) := by decide +kernel
theorem dL_right_150 : decode cL_right 150 = .ok (.goto (-25), 3) := by decide +kernel
theorem dL_right_153 : decode cL_right 153 = .ok (.iconst 0, 1) := by decide +kernel
theorem dL_right_154 : decode cL_right 154 = .ok (.istore 5, 2) := by decide +kernel
theorem dL_right_156 : decode cL_right 156 = .ok (.iconst 0, 1) := by decide +kernel
theorem dL_right_157 : decode cL_right 157 = .ok (.istore 6, 2) := by decide +kernel
theorem dL_right_159 : decode cL_right 159 = .ok (.iload 6, 2) := by decide +kernel
theorem dL_right_161 : decode cL_right 161 = .ok (.aload_n 3, 1) := by decide +kernel
theorem dL_right_162 : decode cL_right 162 = .ok (.bipush 6, 2) := by decide +kernel
theorem dL_right_164 : decode cL_right 164 = .ok (.iaload, 1) := by decide +kernel
theorem dL_right_165 : decode cL_right 165 = .ok (.iconst 1, 1) := by decide +kernel
theorem dL_right_166 : decode cL_right 166 = .ok (.iadd, 1) := by decide +kernel
theorem dL_right_167 : decode cL_right 167 = .ok (.if_icmp .ge 125, 3) := by decide +kernel
theorem dL_right_170 : decode cL_right 170 = .ok (.iload 6, 2) := by decide +kernel
theorem dL_right_172 : decode cL_right 172 = .ok (.bipush 40, 2) := by decide +kernel
theorem dL_right_174 : decode cL_right 174 = .ok (.if_icmp .ge 118, 3) := by decide +kernel
theorem dL_right_177 : decode cL_right 177 = .ok (.aload_n 0, 1) := by decide +kernel
theorem dL_right_178 : decode cL_right 178 = .ok (.iload 6, 2) := by decide +kernel
theorem dL_right_180 : decode cL_right 180 = .ok (.iconst 0, 1) := by decide +kernel
theorem dL_right_181 : decode cL_right 181 = .ok (.invokevirtual 47, 3) := by decide +kernel
theorem dL_right_184 : decode cL_right 184 = .ok (.aload_n 1, 1) := by decide +kernel
theorem dL_right_185 : decode cL_right 185 = .ok (.iload 6, 2) := by decide +kernel
theorem dL_right_187 : decode cL_right 187 = .ok (.invokestatic 10, 3) := by decide +kernel
theorem dL_right_190 : decode cL_right 190 = .ok (.if_icmp .ne 72, 3) := by decide +kernel
theorem dL_right_193 : decode cL_right 193 = .ok (.aload_n 0, 1) := by decide +kernel
theorem dL_right_194 : decode cL_right 194 = .ok (.iload 6, 2) := by decide +kernel
theorem dL_right_196 : decode cL_right 196 = .ok (.iconst 1, 1) := by decide +kernel
theorem dL_right_197 : decode cL_right 197 = .ok (.invokevirtual 47, 3) := by decide +kernel
theorem dL_right_200 : decode cL_right 200 = .ok (.aload_n 1, 1) := by decide +kernel
theorem dL_right_201 : decode cL_right 201 = .ok (.iload 6, 2) := by decide +kernel
theorem dL_right_203 : decode cL_right 203 = .ok (.iconst 0, 1) := by decide +kernel
theorem dL_right_204 : decode cL_right 204 = .ok (.invokestatic 50, 3) := by decide +kernel
theorem dL_right_207 : decode cL_right 207 = .ok (.if_icmp .ne 55, 3) := by decide +kernel
theorem dL_right_210 : decode cL_right 210 = .ok (.aload_n 0, 1) := by decide +kernel
theorem dL_right_211 : decode cL_right 211 = .ok (.iload 6, 2) := by decide +kernel
theorem dL_right_213 : decode cL_right 213 = .ok (.iconst 2, 1) := by decide +kernel
theorem dL_right_214 : decode cL_right 214 = .ok (.invokevirtual 47, 3) := by decide +kernel
theorem dL_right_217 : decode cL_right 217 = .ok (.iload 6, 2) := by decide +kernel
theorem dL_right_219 : decode cL_right 219 = .ok (.aload_n 3, 1) := by decide +kernel
theorem dL_right_220 : decode cL_right 220 = .ok (.bipush 6, 2) := by decide +kernel
theorem dL_right_222 : decode cL_right 222 = .ok (.iaload, 1) := by decide +kernel
theorem dL_right_223 : decode cL_right 223 = .ok (.if_icmp .ge 8, 3) := by decide +kernel
theorem dL_right_226 : decode cL_right 226 = .ok (.iload 5, 2) := by decide +kernel
theorem dL_right_228 : decode cL_right 228 = .ok (.goto 4, 3) := by decide +kernel
theorem dL_right_231 : decode cL_right 231 = .ok (.iconst (-1), 1) := by decide +kernel
theorem dL_right_232 : decode cL_right 232 = .ok (.if_icmp .ne 30, 3) := by decide +kernel
theorem dL_right_235 : decode cL_right 235 = .ok (.aload_n 0, 1) := by decide +kernel
theorem dL_right_236 : decode cL_right 236 = .ok (.iload 6, 2) := by decide +kernel
theorem dL_right_238 : decode cL_right 238 = .ok (.iconst 3, 1) := by decide +kernel
theorem dL_right_239 : decode cL_right 239 = .ok (.invokevirtual 47, 3) := by decide +kernel
theorem dL_right_242 : decode cL_right 242 = .ok (.iload 6, 2) := by decide +kernel
theorem dL_right_244 : decode cL_right 244 = .ok (.aload_n 3, 1) := by decide +kernel
theorem dL_right_245 : decode cL_right 245 = .ok (.bipush 6, 2) := by decide +kernel
theorem dL_right_247 : decode cL_right 247 = .ok (.iaload, 1) := by decide +kernel
theorem dL_right_248 : decode cL_right 248 = .ok (.if_icmp .ge 10, 3) := by decide +kernel
theorem dL_right_251 : decode cL_right 251 = .ok (.aload_n 2, 1) := by decide +kernel
theorem dL_right_252 : decode cL_right 252 = .ok (.iload 6, 2) := by decide +kernel
theorem dL_right_254 : decode cL_right 254 = .ok (.iaload, 1) := by decide +kernel
theorem dL_right_255 : decode cL_right 255 = .ok (.goto 4, 3) := by decide +kernel
theorem dL_right_258 : decode cL_right 258 = .ok (.iconst (-1), 1) := by decide +kernel
theorem dL_right_259 : decode cL_right 259 = .ok (.if_icmp .eq 5, 3) := by decide +kernel
theorem dL_right_262 : decode cL_right 262 = .ok (.iconst 0, 1) := by decide +kernel
theorem dL_right_263 : decode cL_right 263 = .ok (.ireturn, 1) := by decide +kernel
theorem dL_right_264 : decode cL_right 264 = .ok (.iload 5, 2) := by decide +kernel
theorem dL_right_266 : decode cL_right 266 = .ok (.iload 6, 2) := by decide +kernel
theorem dL_right_268 : decode cL_right 268 = .ok (.aload_n 3, 1) := by decide +kernel
theorem dL_right_269 : decode cL_right 269 = .ok (.bipush 6, 2) := by decide +kernel
theorem dL_right_271 : decode cL_right 271 = .ok (.iaload, 1) := by decide +kernel
theorem dL_right_272 : decode cL_right 272 = .ok (.if_icmp .ge 10, 3) := by decide +kernel
theorem dL_right_275 : decode cL_right 275 = .ok (.aload_n 2, 1) := by decide +kernel
theorem dL_right_276 : decode cL_right 276 = .ok (.iload 6, 2) := by decide +kernel
theorem dL_right_278 : decode cL_right 278 = .ok (.iaload, 1) := by decide +kernel
theorem dL_right_279 : decode cL_right 279 = .ok (.goto 4, 3) := by decide +kernel
theorem dL_right_282 : decode cL_right 282 = .ok (.iconst 0, 1) := by decide +kernel
theorem dL_right_283 : decode cL_right 283 = .ok (.iadd, 1) := by decide +kernel
theorem dL_right_284 : decode cL_right 284 = .ok (.istore 5, 2) := by decide +kernel
theorem dL_right_286 : decode cL_right 286 = .ok (.iinc 6 1, 3) := by decide +kernel
theorem dL_right_289 : decode cL_right 289 = .ok (.goto (-130), 3) := by decide +kernel
theorem dL_right_292 : decode cL_right 292 = .ok (.aload_n 0, 1) := by decide +kernel
theorem dL_right_293 : decode cL_right 293 = .ok (.iconst 2, 1) := by decide +kernel
theorem dL_right_294 : decode cL_right 294 = .ok (.invokevirtual 20, 3) := by decide +kernel
theorem dL_right_297 : decode cL_right 297 = .ok (.istore 6, 2) := by decide +kernel
theorem dL_right_299 : decode cL_right 299 = .ok (.iconst 0, 1) := by decide +kernel
theorem dL_right_300 : decode cL_right 300 = .ok (.istore 7, 2) := by decide +kernel
theorem dL_right_302 : decode cL_right 302 = .ok (.iconst 0, 1) := by decide +kernel
theorem dL_right_303 : decode cL_right 303 = .ok (.istore 8, 2) := by decide +kernel
theorem dL_right_305 : decode cL_right 305 = .ok (.iconst 0, 1) := by decide +kernel
theorem dL_right_306 : decode cL_right 306 = .ok (.istore 9, 2) := by decide +kernel
theorem dL_right_308 : decode cL_right 308 = .ok (.iload 9, 2) := by decide +kernel
theorem dL_right_310 : decode cL_right 310 = .ok (.iload 6, 2) := by decide +kernel
theorem dL_right_312 : decode cL_right 312 = .ok (.if_icmp .ge 153, 3) := by decide +kernel
theorem dL_right_315 : decode cL_right 315 = .ok (.aload_n 0, 1) := by decide +kernel
theorem dL_right_316 : decode cL_right 316 = .ok (.iload 9, 2) := by decide +kernel
theorem dL_right_318 : decode cL_right 318 = .ok (.iconst 0, 1) := by decide +kernel
theorem dL_right_319 : decode cL_right 319 = .ok (.invokevirtual 54, 3) := by decide +kernel
theorem dL_right_322 : decode cL_right 322 = .ok (.istore 10, 2) := by decide +kernel
theorem dL_right_324 : decode cL_right 324 = .ok (.iload 10, 2) := by decide +kernel
theorem dL_right_326 : decode cL_right 326 = .ok (.ifCond .ne 102, 3) := by decide +kernel
theorem dL_right_329 : decode cL_right 329 = .ok (.aload_n 0, 1) := by decide +kernel
theorem dL_right_330 : decode cL_right 330 = .ok (.iload 7, 2) := by decide +kernel
theorem dL_right_332 : decode cL_right 332 = .ok (.invokevirtual 57, 3) := by decide +kernel
theorem dL_right_335 : decode cL_right 335 = .ok (.ldc 60, 2) := by decide +kernel
theorem dL_right_337 : decode cL_right 337 = .ok (.aload_n 0, 1) := by decide +kernel
theorem dL_right_338 : decode cL_right 338 = .ok (.iload 9, 2) := by decide +kernel
theorem dL_right_340 : decode cL_right 340 = .ok (.iconst 1, 1) := by decide +kernel
theorem dL_right_341 : decode cL_right 341 = .ok (.invokevirtual 54, 3) := by decide +kernel
theorem dL_right_344 : decode cL_right 344 = .ok (.imul, 1) := by decide +kernel
theorem dL_right_345 : decode cL_right 345 = .ok (.aload_n 0, 1) := by decide +kernel
theorem dL_right_346 : decode cL_right 346 = .ok (.iload 9, 2) := by decide +kernel
theorem dL_right_348 : decode cL_right 348 = .ok (.iconst 2, 1) := by decide +kernel
theorem dL_right_349 : decode cL_right 349 = .ok (.invokevirtual 54, 3) := by decide +kernel
theorem dL_right_352 : decode cL_right 352 = .ok (.iadd, 1) := by decide +kernel
theorem dL_right_353 : decode cL_right 353 = .ok (.if_icmp .ne 20, 3) := by decide +kernel
theorem dL_right_356 : decode cL_right 356 = .ok (.iload 9, 2) := by decide +kernel
theorem dL_right_358 : decode cL_right 358 = .ok (.ifCond .le 17, 3) := by decide +kernel
theorem dL_right_361 : decode cL_right 361 = .ok (.aload_n 0, 1) := by decide +kernel
theorem dL_right_362 : decode cL_right 362 = .ok (.iload 9, 2) := by decide +kernel
theorem dL_right_364 : decode cL_right 364 = .ok (.iconst 1, 1) := by decide +kernel
theorem dL_right_365 : decode cL_right 365 = .ok (.isub, 1) := by decide +kernel
theorem dL_right_366 : decode cL_right 366 = .ok (.iconst 0, 1) := by decide +kernel
theorem dL_right_367 : decode cL_right 367 = .ok (.invokevirtual 54, 3) := by decide +kernel
theorem dL_right_370 : decode cL_right 370 = .ok (.ifCond .ne 5, 3) := by decide +kernel
theorem dL_right_373 : decode cL_right 373 = .ok (.iconst 0, 1) := by decide +kernel
theorem dL_right_374 : decode cL_right 374 = .ok (.ireturn, 1) := by decide +kernel
theorem dL_right_375 : decode cL_right 375 = .ok (.iload 7, 2) := by decide +kernel
theorem dL_right_377 : decode cL_right 377 = .ok (.aload_n 0, 1) := by decide +kernel
theorem dL_right_378 : decode cL_right 378 = .ok (.iload 9, 2) := by decide +kernel
theorem dL_right_380 : decode cL_right 380 = .ok (.iconst 3, 1) := by decide +kernel
theorem dL_right_381 : decode cL_right 381 = .ok (.invokevirtual 54, 3) := by decide +kernel
theorem dL_right_384 : decode cL_right 384 = .ok (.aload_n 0, 1) := by decide +kernel
theorem dL_right_385 : decode cL_right 385 = .ok (.iload 9, 2) := by decide +kernel
theorem dL_right_387 : decode cL_right 387 = .ok (.iconst 2, 1) := by decide +kernel
theorem dL_right_388 : decode cL_right 388 = .ok (.invokevirtual 54, 3) := by decide +kernel
theorem dL_right_391 : decode cL_right 391 = .ok (.isub, 1) := by decide +kernel
theorem dL_right_392 : decode cL_right 392 = .ok (.iconst 1, 1) := by decide +kernel
theorem dL_right_393 : decode cL_right 393 = .ok (.iadd, 1) := by decide +kernel
theorem dL_right_394 : decode cL_right 394 = .ok (.iadd, 1) := by decide +kernel
theorem dL_right_395 : decode cL_right 395 = .ok (.istore 7, 2) := by decide +kernel
theorem dL_right_397 : decode cL_right 397 = .ok (.aload_n 0, 1) := by decide +kernel
theorem dL_right_398 : decode cL_right 398 = .ok (.iload 7, 2) := by decide +kernel
theorem dL_right_400 : decode cL_right 400 = .ok (.iconst 1, 1) := by decide +kernel
theorem dL_right_401 : decode cL_right 401 = .ok (.isub, 1) := by decide +kernel
theorem dL_right_402 : decode cL_right 402 = .ok (.invokevirtual 61, 3) := by decide +kernel
theorem dL_right_405 : decode cL_right 405 = .ok (.ldc 60, 2) := by decide +kernel
theorem dL_right_407 : decode cL_right 407 = .ok (.aload_n 0, 1) := by decide +kernel
theorem dL_right_408 : decode cL_right 408 = .ok (.iload 9, 2) := by decide +kernel
theorem dL_right_410 : decode cL_right 410 = .ok (.iconst 1, 1) := by decide +kernel
theorem dL_right_411 : decode cL_right 411 = .ok (.invokevirtual 54, 3) := by decide +kernel
theorem dL_right_414 : decode cL_right 414 = .ok (.imul, 1) := by decide +kernel
theorem dL_right_415 : decode cL_right 415 = .ok (.aload_n 0, 1) := by decide +kernel
theorem dL_right_416 : decode cL_right 416 = .ok (.iload 9, 2) := by decide +kernel
theorem dL_right_418 : decode cL_right 418 = .ok (.iconst 3, 1) := by decide +kernel
theorem dL_right_419 : decode cL_right 419 = .ok (.invokevirtual 54, 3) := by decide +kernel
theorem dL_right_422 : decode cL_right 422 = .ok (.iadd, 1) := by decide +kernel
theorem dL_right_423 : decode cL_right 423 = .ok (.if_icmp .eq 36, 3) := by decide +kernel
theorem dL_right_426 : decode cL_right 426 = .ok (.iconst 0, 1) := by decide +kernel
theorem dL_right_427 : decode cL_right 427 = .ok (.ireturn, 1) := by decide +kernel
theorem dL_right_428 : decode cL_right 428 = .ok (.iload 10, 2) := by decide +kernel
theorem dL_right_430 : decode cL_right 430 = .ok (.iconst 1, 1) := by decide +kernel
theorem dL_right_431 : decode cL_right 431 = .ok (.if_icmp .ne 9, 3) := by decide +kernel
theorem dL_right_434 : decode cL_right 434 = .ok (.iinc 8 1, 3) := by decide +kernel
theorem dL_right_437 : decode cL_right 437 = .ok (.goto 22, 3) := by decide +kernel
theorem dL_right_440 : decode cL_right 440 = .ok (.iload 10, 2) := by decide +kernel
theorem dL_right_442 : decode cL_right 442 = .ok (.iconst 2, 1) := by decide +kernel
theorem dL_right_443 : decode cL_right 443 = .ok (.if_icmp .ne 14, 3) := by decide +kernel
theorem dL_right_446 : decode cL_right 446 = .ok (.aload_n 0, 1) := by decide +kernel
theorem dL_right_447 : decode cL_right 447 = .ok (.iload 9, 2) := by decide +kernel
theorem dL_right_449 : decode cL_right 449 = .ok (.iconst 1, 1) := by decide +kernel
theorem dL_right_450 : decode cL_right 450 = .ok (.invokevirtual 54, 3) := by decide +kernel
theorem dL_right_453 : decode cL_right 453 = .ok (.iconst (-1), 1) := by decide +kernel
theorem dL_right_454 : decode cL_right 454 = .ok (.if_icmp .eq 5, 3) := by decide +kernel
theorem dL_right_457 : decode cL_right 457 = .ok (.iconst 0, 1) := by decide +kernel
theorem dL_right_458 : decode cL_right 458 = .ok (.ireturn, 1) := by decide +kernel
theorem dL_right_459 : decode cL_right 459 = .ok (.iinc 9 1, 3) := by decide +kernel
theorem dL_right_462 : decode cL_right 462 = .ok (.goto (-154), 3) := by decide +kernel
theorem dL_right_465 : decode cL_right 465 = .ok (.iload 7, 2) := by decide +kernel
theorem dL_right_467 : decode cL_right 467 = .ok (.iload 4, 2) := by decide +kernel
theorem dL_right_469 : decode cL_right 469 = .ok (.if_icmp .ne 17, 3) := by decide +kernel
theorem dL_right_472 : decode cL_right 472 = .ok (.iload 8, 2) := by decide +kernel
theorem dL_right_474 : decode cL_right 474 = .ok (.aload_n 0, 1) := by decide +kernel
theorem dL_right_475 : decode cL_right 475 = .ok (.iconst 3, 1) := by decide +kernel
theorem dL_right_476 : decode cL_right 476 = .ok (.invokevirtual 20, 3) := by decide +kernel
theorem dL_right_479 : decode cL_right 479 = .ok (.if_icmp .ne 7, 3) := by decide +kernel
theorem dL_right_482 : decode cL_right 482 = .ok (.iconst 1, 1) := by decide +kernel
theorem dL_right_483 : decode cL_right 483 = .ok (.goto 4, 3) := by decide +kernel
theorem dL_right_486 : decode cL_right 486 = .ok (.iconst 0, 1) := by decide +kernel
theorem dL_right_487 : decode cL_right 487 = .ok (.ireturn, 1) := by decide +kernel
theorem dL_mended_0 : decode cL_mended 0 = .ok (.aload_n 0, 1) := by decide +kernel
theorem dL_mended_1 : decode cL_mended 1 = .ok (.iload_n 1, 1) := by decide +kernel
theorem dL_mended_2 : decode cL_mended 2 = .ok (.iload_n 2, 1) := by decide +kernel
theorem dL_mended_3 : decode cL_mended 3 = .ok (.invokevirtual 64, 3) := by decide +kernel
theorem dL_mended_6 : decode cL_mended 6 = .ok (.ireturn, 1) := by decide +kernel
theorem dL_mended_7 : decode cL_mended 7 = .ok (.astore_n 3, 1) := by decide +kernel
theorem dL_mended_8 : decode cL_mended 8 = .ok (.iconst (-1), 1) := by decide +kernel
theorem dL_mended_9 : decode cL_mended 9 = .ok (.ireturn, 1) := by decide +kernel
theorem dL_taken_0 : decode cL_taken 0 = .ok (.aload_n 0, 1) := by decide +kernel
theorem dL_taken_1 : decode cL_taken 1 = .ok (.iload_n 1, 1) := by decide +kernel
theorem dL_taken_2 : decode cL_taken 2 = .ok (.invokevirtual 69, 3) := by decide +kernel
theorem dL_taken_5 : decode cL_taken 5 = .ok (.ireturn, 1) := by decide +kernel
theorem dL_taken_6 : decode cL_taken 6 = .ok (.astore_n 2, 1) := by decide +kernel
theorem dL_taken_7 : decode cL_taken 7 = .ok (.iconst (-1), 1) := by decide +kernel
theorem dL_taken_8 : decode cL_taken 8 = .ok (.ireturn, 1) := by decide +kernel
theorem dL_repeated_0 : decode cL_repeated 0 = .ok (.aload_n 0, 1) := by decide +kernel
theorem dL_repeated_1 : decode cL_repeated 1 = .ok (.invokevirtual 72, 3) := by decide +kernel
theorem dL_repeated_4 : decode cL_repeated 4 = .ok (.ireturn, 1) := by decide +kernel
theorem dL_repeated_5 : decode cL_repeated 5 = .ok (.astore_n 1, 1) := by decide +kernel
theorem dL_repeated_6 : decode cL_repeated 6 = .ok (.iconst (-1), 1) := by decide +kernel
theorem dL_repeated_7 : decode cL_repeated 7 = .ok (.ireturn, 1) := by decide +kernel
theorem dL_law_0 : decode cL_law 0 = .ok (.new 21, 3) := by decide +kernel
theorem dL_law_3 : decode cL_law 3 = .ok (.dup, 1) := by decide +kernel
theorem dL_law_4 : decode cL_law 4 = .ok (.invokespecial 75, 3) := by decide +kernel
theorem dL_law_7 : decode cL_law 7 = .ok (.astore_n 1, 1) := by decide +kernel
theorem dL_law_8 : decode cL_law 8 = .ok (.bipush 64, 2) := by decide +kernel
theorem dL_law_10 : decode cL_law 10 = .ok (.newarray .int, 2) := by decide +kernel
theorem dL_law_12 : decode cL_law 12 = .ok (.astore_n 2, 1) := by decide +kernel
theorem dL_law_13 : decode cL_law 13 = .ok (.bipush 64, 2) := by decide +kernel
theorem dL_law_15 : decode cL_law 15 = .ok (.newarray .int, 2) := by decide +kernel
theorem dL_law_17 : decode cL_law 17 = .ok (.astore_n 3, 1) := by decide +kernel
