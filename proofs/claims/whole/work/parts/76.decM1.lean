theorem d_M_init_0 : decode prog_9_method_1_code 0 = .ok (.aload_n 0, 1) := by decide +kernel
theorem d_M_init_1 : decode prog_9_method_1_code 1 = .ok (.invokespecial 1, 3) := by decide +kernel
theorem d_M_init_4 : decode prog_9_method_1_code 4 = .ok (.aload_n 0, 1) := by decide +kernel
theorem d_M_init_5 : decode prog_9_method_1_code 5 = .ok (.bipush 6, 2) := by decide +kernel
theorem d_M_init_7 : decode prog_9_method_1_code 7 = .ok (.newarray .boolean, 2) := by decide +kernel
theorem d_M_init_9 : decode prog_9_method_1_code 9 = .ok (.putfield 7, 3) := by decide +kernel
theorem d_M_init_12 : decode prog_9_method_1_code 12 = .ok (.aload_n 0, 1) := by decide +kernel
theorem d_M_init_13 : decode prog_9_method_1_code 13 = .ok (.bipush 6, 2) := by decide +kernel
theorem d_M_init_15 : decode prog_9_method_1_code 15 = .ok (.newarray .int, 2) := by decide +kernel
theorem d_M_init_17 : decode prog_9_method_1_code 17 = .ok (.putfield 13, 3) := by decide +kernel
theorem d_M_init_20 : decode prog_9_method_1_code 20 = .ok (.aload_n 0, 1) := by decide +kernel
theorem d_M_init_21 : decode prog_9_method_1_code 21 = .ok (.bipush 6, 2) := by decide +kernel
theorem d_M_init_23 : decode prog_9_method_1_code 23 = .ok (.newarray .int, 2) := by decide +kernel
theorem d_M_init_25 : decode prog_9_method_1_code 25 = .ok (.putfield 17, 3) := by decide +kernel
theorem d_M_init_28 : decode prog_9_method_1_code 28 = .ok (.aload_n 0, 1) := by decide +kernel
theorem d_M_init_29 : decode prog_9_method_1_code 29 = .ok (.bipush 6, 2) := by decide +kernel
theorem d_M_init_31 : decode prog_9_method_1_code 31 = .ok (.newarray .int, 2) := by decide +kernel
theorem d_M_init_33 : decode prog_9_method_1_code 33 = .ok (.putfield 20, 3) := by decide +kernel
theorem d_M_init_36 : decode prog_9_method_1_code 36 = .ok (.aload_n 0, 1) := by decide +kernel
theorem d_M_init_37 : decode prog_9_method_1_code 37 = .ok (.bipush 6, 2) := by decide +kernel
theorem d_M_init_39 : decode prog_9_method_1_code 39 = .ok (.newarray .int, 2) := by decide +kernel
theorem d_M_init_41 : decode prog_9_method_1_code 41 = .ok (.putfield 23, 3) := by decide +kernel
theorem d_M_init_44 : decode prog_9_method_1_code 44 = .ok (.aload_n 0, 1) := by decide +kernel
theorem d_M_init_45 : decode prog_9_method_1_code 45 = .ok (.bipush 6, 2) := by decide +kernel
theorem d_M_init_47 : decode prog_9_method_1_code 47 = .ok (.newarray .int, 2) := by decide +kernel
theorem d_M_init_49 : decode prog_9_method_1_code 49 = .ok (.putfield 26, 3) := by decide +kernel
theorem d_M_init_52 : decode prog_9_method_1_code 52 = .ok (.aload_n 0, 1) := by decide +kernel
theorem d_M_init_53 : decode prog_9_method_1_code 53 = .ok (.bipush 6, 2) := by decide +kernel
theorem d_M_init_55 : decode prog_9_method_1_code 55 = .ok (.newarray .int, 2) := by decide +kernel
theorem d_M_init_57 : decode prog_9_method_1_code 57 = .ok (.putfield 29, 3) := by decide +kernel
theorem d_M_init_60 : decode prog_9_method_1_code 60 = .ok (.aload_n 0, 1) := by decide +kernel
theorem d_M_init_61 : decode prog_9_method_1_code 61 = .ok (.bipush 6, 2) := by decide +kernel
theorem d_M_init_63 : decode prog_9_method_1_code 63 = .ok (.newarray .int, 2) := by decide +kernel
theorem d_M_init_65 : decode prog_9_method_1_code 65 = .ok (.putfield 32, 3) := by decide +kernel
theorem d_M_init_68 : decode prog_9_method_1_code 68 = .ok (.aload_n 0, 1) := by decide +kernel
theorem d_M_init_69 : decode prog_9_method_1_code 69 = .ok (.bipush 6, 2) := by decide +kernel
theorem d_M_init_71 : decode prog_9_method_1_code 71 = .ok (.newarray .int, 2) := by decide +kernel
theorem d_M_init_73 : decode prog_9_method_1_code 73 = .ok (.putfield 35, 3) := by decide +kernel
theorem d_M_init_76 : decode prog_9_method_1_code 76 = .ok (.aload_n 0, 1) := by decide +kernel
theorem d_M_init_77 : decode prog_9_method_1_code 77 = .ok (.bipush 6, 2) := by decide +kernel
theorem d_M_init_79 : decode prog_9_method_1_code 79 = .ok (.newarray .int, 2) := by decide +kernel
theorem d_M_init_81 : decode prog_9_method_1_code 81 = .ok (.putfield 38, 3) := by decide +kernel
theorem d_M_init_84 : decode prog_9_method_1_code 84 = .ok (.aload_n 0, 1) := by decide +kernel
theorem d_M_init_85 : decode prog_9_method_1_code 85 = .ok (.bipush 102, 2) := by decide +kernel
theorem d_M_init_87 : decode prog_9_method_1_code 87 = .ok (.newarray .int, 2) := by decide +kernel
theorem d_M_init_89 : decode prog_9_method_1_code 89 = .ok (.putfield 41, 3) := by decide +kernel
theorem d_M_init_92 : decode prog_9_method_1_code 92 = .ok (.aload_n 0, 1) := by decide +kernel
theorem d_M_init_93 : decode prog_9_method_1_code 93 = .ok (.bipush 102, 2) := by decide +kernel
theorem d_M_init_95 : decode prog_9_method_1_code 95 = .ok (.newarray .boolean, 2) := by decide +kernel
theorem d_M_init_97 : decode prog_9_method_1_code 97 = .ok (.putfield 44, 3) := by decide +kernel
theorem d_M_init_100 : decode prog_9_method_1_code 100 = .ok (.aload_n 0, 1) := by decide +kernel
theorem d_M_init_101 : decode prog_9_method_1_code 101 = .ok (.bipush 60, 2) := by decide +kernel
theorem d_M_init_103 : decode prog_9_method_1_code 103 = .ok (.newarray .int, 2) := by decide +kernel
theorem d_M_init_105 : decode prog_9_method_1_code 105 = .ok (.putfield 47, 3) := by decide +kernel
theorem d_M_init_108 : decode prog_9_method_1_code 108 = .ok (.aload_n 0, 1) := by decide +kernel
theorem d_M_init_109 : decode prog_9_method_1_code 109 = .ok (.bipush 60, 2) := by decide +kernel
theorem d_M_init_111 : decode prog_9_method_1_code 111 = .ok (.newarray .int, 2) := by decide +kernel
theorem d_M_init_113 : decode prog_9_method_1_code 113 = .ok (.putfield 50, 3) := by decide +kernel
theorem d_M_init_116 : decode prog_9_method_1_code 116 = .ok (.aload_n 0, 1) := by decide +kernel
theorem d_M_init_117 : decode prog_9_method_1_code 117 = .ok (.bipush 60, 2) := by decide +kernel
theorem d_M_init_119 : decode prog_9_method_1_code 119 = .ok (.newarray .int, 2) := by decide +kernel
theorem d_M_init_121 : decode prog_9_method_1_code 121 = .ok (.putfield 53, 3) := by decide +kernel
theorem d_M_init_124 : decode prog_9_method_1_code 124 = .ok (.aload_n 0, 1) := by decide +kernel
theorem d_M_init_125 : decode prog_9_method_1_code 125 = .ok (.bipush 60, 2) := by decide +kernel
theorem d_M_init_127 : decode prog_9_method_1_code 127 = .ok (.newarray .int, 2) := by decide +kernel
theorem d_M_init_129 : decode prog_9_method_1_code 129 = .ok (.putfield 56, 3) := by decide +kernel
theorem d_M_init_132 : decode prog_9_method_1_code 132 = .ok (.aload_n 0, 1) := by decide +kernel
theorem d_M_init_133 : decode prog_9_method_1_code 133 = .ok (.bipush 60, 2) := by decide +kernel
theorem d_M_init_135 : decode prog_9_method_1_code 135 = .ok (.newarray .int, 2) := by decide +kernel
theorem d_M_init_137 : decode prog_9_method_1_code 137 = .ok (.putfield 59, 3) := by decide +kernel
theorem d_M_init_140 : decode prog_9_method_1_code 140 = .ok (.aload_n 0, 1) := by decide +kernel
theorem d_M_init_141 : decode prog_9_method_1_code 141 = .ok (.bipush 60, 2) := by decide +kernel
theorem d_M_init_143 : decode prog_9_method_1_code 143 = .ok (.newarray .int, 2) := by decide +kernel
theorem d_M_init_145 : decode prog_9_method_1_code 145 = .ok (.putfield 62, 3) := by decide +kernel
theorem d_M_init_148 : decode prog_9_method_1_code 148 = .ok (.aload_n 0, 1) := by decide +kernel
theorem d_M_init_149 : decode prog_9_method_1_code 149 = .ok (.bipush 60, 2) := by decide +kernel
theorem d_M_init_151 : decode prog_9_method_1_code 151 = .ok (.newarray .boolean, 2) := by decide +kernel
theorem d_M_init_153 : decode prog_9_method_1_code 153 = .ok (.putfield 65, 3) := by decide +kernel
theorem d_M_init_156 : decode prog_9_method_1_code 156 = .ok (.aload_n 0, 1) := by decide +kernel
theorem d_M_init_157 : decode prog_9_method_1_code 157 = .ok (.bipush 60, 2) := by decide +kernel
theorem d_M_init_159 : decode prog_9_method_1_code 159 = .ok (.newarray .boolean, 2) := by decide +kernel
theorem d_M_init_161 : decode prog_9_method_1_code 161 = .ok (.putfield 68, 3) := by decide +kernel
theorem d_M_init_164 : decode prog_9_method_1_code 164 = .ok (.aload_n 0, 1) := by decide +kernel
theorem d_M_init_165 : decode prog_9_method_1_code 165 = .ok (.bipush 60, 2) := by decide +kernel
theorem d_M_init_167 : decode prog_9_method_1_code 167 = .ok (.newarray .int, 2) := by decide +kernel
theorem d_M_init_169 : decode prog_9_method_1_code 169 = .ok (.putfield 71, 3) := by decide +kernel
theorem d_M_init_172 : decode prog_9_method_1_code 172 = .ok (.aload_n 0, 1) := by decide +kernel
theorem d_M_init_173 : decode prog_9_method_1_code 173 = .ok (.bipush 18, 2) := by decide +kernel
theorem d_M_init_175 : decode prog_9_method_1_code 175 = .ok (.newarray .int, 2) := by decide +kernel
theorem d_M_init_177 : decode prog_9_method_1_code 177 = .ok (.putfield 74, 3) := by decide +kernel
theorem d_M_init_180 : decode prog_9_method_1_code 180 = .ok (.aload_n 0, 1) := by decide +kernel
theorem d_M_init_181 : decode prog_9_method_1_code 181 = .ok (.bipush 18, 2) := by decide +kernel
theorem d_M_init_183 : decode prog_9_method_1_code 183 = .ok (.newarray .int, 2) := by decide +kernel
theorem d_M_init_185 : decode prog_9_method_1_code 185 = .ok (.putfield 77, 3) := by decide +kernel
theorem d_M_init_188 : decode prog_9_method_1_code 188 = .ok (.aload_n 0, 1) := by decide +kernel
theorem d_M_init_189 : decode prog_9_method_1_code 189 = .ok (.bipush 18, 2) := by decide +kernel
theorem d_M_init_191 : decode prog_9_method_1_code 191 = .ok (.newarray .int, 2) := by decide +kernel
theorem d_M_init_193 : decode prog_9_method_1_code 193 = .ok (.putfield 80, 3) := by decide +kernel
theorem d_M_init_196 : decode prog_9_method_1_code 196 = .ok (.aload_n 0, 1) := by decide +kernel
theorem d_M_init_197 : decode prog_9_method_1_code 197 = .ok (.bipush 18, 2) := by decide +kernel
theorem d_M_init_199 : decode prog_9_method_1_code 199 = .ok (.newarray .int, 2) := by decide +kernel
theorem d_M_init_201 : decode prog_9_method_1_code 201 = .ok (.putfield 83, 3) := by decide +kernel
theorem d_M_init_204 : decode prog_9_method_1_code 204 = .ok (.aload_n 0, 1) := by decide +kernel
theorem d_M_init_205 : decode prog_9_method_1_code 205 = .ok (.bipush 18, 2) := by decide +kernel
theorem d_M_init_207 : decode prog_9_method_1_code 207 = .ok (.newarray .boolean, 2) := by decide +kernel
theorem d_M_init_209 : decode prog_9_method_1_code 209 = .ok (.putfield 86, 3) := by decide +kernel
theorem d_M_init_212 : decode prog_9_method_1_code 212 = .ok (.aload_n 0, 1) := by decide +kernel
theorem d_M_init_213 : decode prog_9_method_1_code 213 = .ok (.bipush 6, 2) := by decide +kernel
theorem d_M_init_215 : decode prog_9_method_1_code 215 = .ok (.newarray .int, 2) := by decide +kernel
theorem d_M_init_217 : decode prog_9_method_1_code 217 = .ok (.putfield 89, 3) := by decide +kernel
theorem d_M_init_220 : decode prog_9_method_1_code 220 = .ok (.aload_n 0, 1) := by decide +kernel
theorem d_M_init_221 : decode prog_9_method_1_code 221 = .ok (.bipush 6, 2) := by decide +kernel
theorem d_M_init_223 : decode prog_9_method_1_code 223 = .ok (.newarray .int, 2) := by decide +kernel
theorem d_M_init_225 : decode prog_9_method_1_code 225 = .ok (.putfield 92, 3) := by decide +kernel
theorem d_M_init_228 : decode prog_9_method_1_code 228 = .ok (.aload_n 0, 1) := by decide +kernel
theorem d_M_init_229 : decode prog_9_method_1_code 229 = .ok (.bipush 6, 2) := by decide +kernel
theorem d_M_init_231 : decode prog_9_method_1_code 231 = .ok (.newarray .int, 2) := by decide +kernel
theorem d_M_init_233 : decode prog_9_method_1_code 233 = .ok (.putfield 95, 3) := by decide +kernel
theorem d_M_init_236 : decode prog_9_method_1_code 236 = .ok (.aload_n 0, 1) := by decide +kernel
theorem d_M_init_237 : decode prog_9_method_1_code 237 = .ok (.bipush 6, 2) := by decide +kernel
theorem d_M_init_239 : decode prog_9_method_1_code 239 = .ok (.newarray .int, 2) := by decide +kernel
theorem d_M_init_241 : decode prog_9_method_1_code 241 = .ok (.putfield 98, 3) := by decide +kernel
theorem d_M_init_244 : decode prog_9_method_1_code 244 = .ok (.aload_n 0, 1) := by decide +kernel
theorem d_M_init_245 : decode prog_9_method_1_code 245 = .ok (.bipush 36, 2) := by decide +kernel
theorem d_M_init_247 : decode prog_9_method_1_code 247 = .ok (.newarray .int, 2) := by decide +kernel
theorem d_M_init_249 : decode prog_9_method_1_code 249 = .ok (.putfield 101, 3) := by decide +kernel
theorem d_M_init_252 : decode prog_9_method_1_code 252 = .ok (.aload_n 0, 1) := by decide +kernel
theorem d_M_init_253 : decode prog_9_method_1_code 253 = .ok (.iconst 2, 1) := by decide +kernel
theorem d_M_init_254 : decode prog_9_method_1_code 254 = .ok (.newarray .int, 2) := by decide +kernel
theorem d_M_init_256 : decode prog_9_method_1_code 256 = .ok (.putfield 104, 3) := by decide +kernel
theorem d_M_init_259 : decode prog_9_method_1_code 259 = .ok (.iconst 0, 1) := by decide +kernel
theorem d_M_init_260 : decode prog_9_method_1_code 260 = .ok (.istore_n 1, 1) := by decide +kernel
theorem d_M_init_261 : decode prog_9_method_1_code 261 = .ok (.iload_n 1, 1) := by decide +kernel
theorem d_M_init_262 : decode prog_9_method_1_code 262 = .ok (.bipush 6, 2) := by decide +kernel
theorem d_M_init_264 : decode prog_9_method_1_code 264 = .ok (.if_icmp .ge 23, 3) := by decide +kernel
theorem d_M_init_267 : decode prog_9_method_1_code 267 = .ok (.aload_n 0, 1) := by decide +kernel
theorem d_M_init_268 : decode prog_9_method_1_code 268 = .ok (.getfield 13, 3) := by decide +kernel
theorem d_M_init_271 : decode prog_9_method_1_code 271 = .ok (.iload_n 1, 1) := by decide +kernel
theorem d_M_init_272 : decode prog_9_method_1_code 272 = .ok (.iload_n 1, 1) := by decide +kernel
theorem d_M_init_273 : decode prog_9_method_1_code 273 = .ok (.iastore, 1) := by decide +kernel
theorem d_M_init_274 : decode prog_9_method_1_code 274 = .ok (.aload_n 0, 1) := by decide +kernel
theorem d_M_init_275 : decode prog_9_method_1_code 275 = .ok (.getfield 17, 3) := by decide +kernel
theorem d_M_init_278 : decode prog_9_method_1_code 278 = .ok (.iload_n 1, 1) := by decide +kernel
theorem d_M_init_279 : decode prog_9_method_1_code 279 = .ok (.iload_n 1, 1) := by decide +kernel
theorem d_M_init_280 : decode prog_9_method_1_code 280 = .ok (.iastore, 1) := by decide +kernel
theorem d_M_init_281 : decode prog_9_method_1_code 281 = .ok (.iinc 1 1, 3) := by decide +kernel
theorem d_M_init_284 : decode prog_9_method_1_code 284 = .ok (.goto (-23), 3) := by decide +kernel
theorem d_M_init_287 : decode prog_9_method_1_code 287 = .ok (.aload_n 0, 1) := by decide +kernel
theorem d_M_init_288 : decode prog_9_method_1_code 288 = .ok (.iconst (-1), 1) := by decide +kernel
theorem d_M_init_289 : decode prog_9_method_1_code 289 = .ok (.putfield 107, 3) := by decide +kernel
theorem d_M_init_292 : decode prog_9_method_1_code 292 = .ok (.return_, 1) := by decide +kernel
theorem d_M_isNode_0 : decode prog_9_method_2_code 0 = .ok (.iload_n 0, 1) := by decide +kernel
theorem d_M_isNode_1 : decode prog_9_method_2_code 1 = .ok (.ifCond .lt 13, 3) := by decide +kernel
theorem d_M_isNode_4 : decode prog_9_method_2_code 4 = .ok (.iload_n 0, 1) := by decide +kernel
theorem d_M_isNode_5 : decode prog_9_method_2_code 5 = .ok (.bipush 6, 2) := by decide +kernel
theorem d_M_isNode_7 : decode prog_9_method_2_code 7 = .ok (.if_icmp .ge 7, 3) := by decide +kernel
theorem d_M_isNode_10 : decode prog_9_method_2_code 10 = .ok (.iconst 1, 1) := by decide +kernel
theorem d_M_isNode_11 : decode prog_9_method_2_code 11 = .ok (.goto 4, 3) := by decide +kernel
theorem d_M_isNode_14 : decode prog_9_method_2_code 14 = .ok (.iconst 0, 1) := by decide +kernel
theorem d_M_isNode_15 : decode prog_9_method_2_code 15 = .ok (.ireturn, 1) := by decide +kernel
theorem d_M_outside_0 : decode prog_9_method_3_code 0 = .ok (.iload_n 0, 1) := by decide +kernel
theorem d_M_outside_1 : decode prog_9_method_3_code 1 = .ok (.iload_n 1, 1) := by decide +kernel
theorem d_M_outside_2 : decode prog_9_method_3_code 2 = .ok (.if_icmp .lt 8, 3) := by decide +kernel
theorem d_M_outside_5 : decode prog_9_method_3_code 5 = .ok (.iload_n 0, 1) := by decide +kernel
theorem d_M_outside_6 : decode prog_9_method_3_code 6 = .ok (.iload_n 2, 1) := by decide +kernel
theorem d_M_outside_7 : decode prog_9_method_3_code 7 = .ok (.if_icmp .le 7, 3) := by decide +kernel
theorem d_M_outside_10 : decode prog_9_method_3_code 10 = .ok (.iconst 1, 1) := by decide +kernel
theorem d_M_outside_11 : decode prog_9_method_3_code 11 = .ok (.goto 4, 3) := by decide +kernel
theorem d_M_outside_14 : decode prog_9_method_3_code 14 = .ok (.iconst 0, 1) := by decide +kernel
theorem d_M_outside_15 : decode prog_9_method_3_code 15 = .ok (.ireturn, 1) := by decide +kernel
theorem d_M_held_0 : decode prog_9_method_4_code 0 = .ok (.iload_n 0, 1) := by decide +kernel
theorem d_M_held_1 : decode prog_9_method_4_code 1 = .ok (.iload_n 1, 1) := by decide +kernel
theorem d_M_held_2 : decode prog_9_method_4_code 2 = .ok (.ineg, 1) := by decide +kernel
theorem d_M_held_3 : decode prog_9_method_4_code 3 = .ok (.if_icmp .ge 8, 3) := by decide +kernel
theorem d_M_held_6 : decode prog_9_method_4_code 6 = .ok (.iload_n 1, 1) := by decide +kernel
theorem d_M_held_7 : decode prog_9_method_4_code 7 = .ok (.ineg, 1) := by decide +kernel
theorem d_M_held_8 : decode prog_9_method_4_code 8 = .ok (.goto 13, 3) := by decide +kernel
theorem d_M_held_11 : decode prog_9_method_4_code 11 = .ok (.iload_n 0, 1) := by decide +kernel
theorem d_M_held_12 : decode prog_9_method_4_code 12 = .ok (.iload_n 1, 1) := by decide +kernel
theorem d_M_held_13 : decode prog_9_method_4_code 13 = .ok (.if_icmp .le 7, 3) := by decide +kernel
theorem d_M_held_16 : decode prog_9_method_4_code 16 = .ok (.iload_n 1, 1) := by decide +kernel
theorem d_M_held_17 : decode prog_9_method_4_code 17 = .ok (.goto 4, 3) := by decide +kernel
theorem d_M_held_20 : decode prog_9_method_4_code 20 = .ok (.iload_n 0, 1) := by decide +kernel
theorem d_M_held_21 : decode prog_9_method_4_code 21 = .ok (.ireturn, 1) := by decide +kernel
theorem d_M_power_0 : decode prog_9_method_5_code 0 = .ok (.iload_n 1, 1) := by decide +kernel
theorem d_M_power_1 : decode prog_9_method_5_code 1 = .ok (.invokestatic 111, 3) := by decide +kernel
theorem d_M_power_4 : decode prog_9_method_5_code 4 = .ok (.ifCond .eq 13, 3) := by decide +kernel
theorem d_M_power_7 : decode prog_9_method_5_code 7 = .ok (.aload_n 0, 1) := by decide +kernel
theorem d_M_power_8 : decode prog_9_method_5_code 8 = .ok (.getfield 7, 3) := by decide +kernel
theorem d_M_power_11 : decode prog_9_method_5_code 11 = .ok (.iload_n 1, 1) := by decide +kernel
theorem d_M_power_12 : decode prog_9_method_5_code 12 = .ok (.baload, 1) := by decide +kernel
theorem d_M_power_13 : decode prog_9_method_5_code 13 = .ok (.iload_n 2, 1) := by decide +kernel
theorem d_M_power_14 : decode prog_9_method_5_code 14 = .ok (.if_icmp .ne 5, 3) := by decide +kernel
theorem d_M_power_17 : decode prog_9_method_5_code 17 = .ok (.iconst 0, 1) := by decide +kernel
theorem d_M_power_18 : decode prog_9_method_5_code 18 = .ok (.ireturn, 1) := by decide +kernel
theorem d_M_power_19 : decode prog_9_method_5_code 19 = .ok (.aload_n 0, 1) := by decide +kernel
theorem d_M_power_20 : decode prog_9_method_5_code 20 = .ok (.getfield 7, 3) := by decide +kernel
theorem d_M_power_23 : decode prog_9_method_5_code 23 = .ok (.iload_n 1, 1) := by decide +kernel
theorem d_M_power_24 : decode prog_9_method_5_code 24 = .ok (.iload_n 2, 1) := by decide +kernel
theorem d_M_power_25 : decode prog_9_method_5_code 25 = .ok (.bastore, 1) := by decide +kernel
theorem d_M_power_26 : decode prog_9_method_5_code 26 = .ok (.iload_n 2, 1) := by decide +kernel
theorem d_M_power_27 : decode prog_9_method_5_code 27 = .ok (.ifCond .eq 138, 3) := by decide +kernel
theorem d_M_power_30 : decode prog_9_method_5_code 30 = .ok (.aload_n 0, 1) := by decide +kernel
theorem d_M_power_31 : decode prog_9_method_5_code 31 = .ok (.getfield 13, 3) := by decide +kernel
theorem d_M_power_34 : decode prog_9_method_5_code 34 = .ok (.iload_n 1, 1) := by decide +kernel
theorem d_M_power_35 : decode prog_9_method_5_code 35 = .ok (.iload_n 1, 1) := by decide +kernel
theorem d_M_power_36 : decode prog_9_method_5_code 36 = .ok (.iastore, 1) := by decide +kernel
theorem d_M_power_37 : decode prog_9_method_5_code 37 = .ok (.aload_n 0, 1) := by decide +kernel
theorem d_M_power_38 : decode prog_9_method_5_code 38 = .ok (.getfield 17, 3) := by decide +kernel
theorem d_M_power_41 : decode prog_9_method_5_code 41 = .ok (.iload_n 1, 1) := by decide +kernel
theorem d_M_power_42 : decode prog_9_method_5_code 42 = .ok (.iload_n 1, 1) := by decide +kernel
theorem d_M_power_43 : decode prog_9_method_5_code 43 = .ok (.iastore, 1) := by decide +kernel
theorem d_M_power_44 : decode prog_9_method_5_code 44 = .ok (.aload_n 0, 1) := by decide +kernel
theorem d_M_power_45 : decode prog_9_method_5_code 45 = .ok (.getfield 20, 3) := by decide +kernel
theorem d_M_power_48 : decode prog_9_method_5_code 48 = .ok (.iload_n 1, 1) := by decide +kernel
theorem d_M_power_49 : decode prog_9_method_5_code 49 = .ok (.iconst 0, 1) := by decide +kernel
theorem d_M_power_50 : decode prog_9_method_5_code 50 = .ok (.iastore, 1) := by decide +kernel
theorem d_M_power_51 : decode prog_9_method_5_code 51 = .ok (.aload_n 0, 1) := by decide +kernel
theorem d_M_power_52 : decode prog_9_method_5_code 52 = .ok (.getfield 38, 3) := by decide +kernel
theorem d_M_power_55 : decode prog_9_method_5_code 55 = .ok (.iload_n 1, 1) := by decide +kernel
theorem d_M_power_56 : decode prog_9_method_5_code 56 = .ok (.iconst 0, 1) := by decide +kernel
theorem d_M_power_57 : decode prog_9_method_5_code 57 = .ok (.iastore, 1) := by decide +kernel
theorem d_M_power_58 : decode prog_9_method_5_code 58 = .ok (.iconst 0, 1) := by decide +kernel
theorem d_M_power_59 : decode prog_9_method_5_code 59 = .ok (.istore_n 3, 1) := by decide +kernel
theorem d_M_power_60 : decode prog_9_method_5_code 60 = .ok (.iconst 0, 1) := by decide +kernel
theorem d_M_power_61 : decode prog_9_method_5_code 61 = .ok (.istore 4, 2) := by decide +kernel
theorem d_M_power_63 : decode prog_9_method_5_code 63 = .ok (.iload 4, 2) := by decide +kernel
theorem d_M_power_65 : decode prog_9_method_5_code 65 = .ok (.aload_n 0, 1) := by decide +kernel
theorem d_M_power_66 : decode prog_9_method_5_code 66 = .ok (.getfield 115, 3) := by decide +kernel
theorem d_M_power_69 : decode prog_9_method_5_code 69 = .ok (.if_icmp .ge 88, 3) := by decide +kernel
theorem d_M_power_72 : decode prog_9_method_5_code 72 = .ok (.aload_n 0, 1) := by decide +kernel
theorem d_M_power_73 : decode prog_9_method_5_code 73 = .ok (.getfield 74, 3) := by decide +kernel
theorem d_M_power_76 : decode prog_9_method_5_code 76 = .ok (.iload 4, 2) := by decide +kernel
theorem d_M_power_78 : decode prog_9_method_5_code 78 = .ok (.iaload, 1) := by decide +kernel
theorem d_M_power_79 : decode prog_9_method_5_code 79 = .ok (.iload_n 1, 1) := by decide +kernel
theorem d_M_power_80 : decode prog_9_method_5_code 80 = .ok (.if_icmp .eq 71, 3) := by decide +kernel
theorem d_M_power_83 : decode prog_9_method_5_code 83 = .ok (.aload_n 0, 1) := by decide +kernel
theorem d_M_power_84 : decode prog_9_method_5_code 84 = .ok (.getfield 74, 3) := by decide +kernel
theorem d_M_power_87 : decode prog_9_method_5_code 87 = .ok (.iload_n 3, 1) := by decide +kernel
theorem d_M_power_88 : decode prog_9_method_5_code 88 = .ok (.aload_n 0, 1) := by decide +kernel
theorem d_M_power_89 : decode prog_9_method_5_code 89 = .ok (.getfield 74, 3) := by decide +kernel
theorem d_M_power_92 : decode prog_9_method_5_code 92 = .ok (.iload 4, 2) := by decide +kernel
theorem d_M_power_94 : decode prog_9_method_5_code 94 = .ok (.iaload, 1) := by decide +kernel
theorem d_M_power_95 : decode prog_9_method_5_code 95 = .ok (.iastore, 1) := by decide +kernel
theorem d_M_power_96 : decode prog_9_method_5_code 96 = .ok (.aload_n 0, 1) := by decide +kernel
theorem d_M_power_97 : decode prog_9_method_5_code 97 = .ok (.getfield 77, 3) := by decide +kernel
theorem d_M_power_100 : decode prog_9_method_5_code 100 = .ok (.iload_n 3, 1) := by decide +kernel
theorem d_M_power_101 : decode prog_9_method_5_code 101 = .ok (.aload_n 0, 1) := by decide +kernel
theorem d_M_power_102 : decode prog_9_method_5_code 102 = .ok (.getfield 77, 3) := by decide +kernel
theorem d_M_power_105 : decode prog_9_method_5_code 105 = .ok (.iload 4, 2) := by decide +kernel
theorem d_M_power_107 : decode prog_9_method_5_code 107 = .ok (.iaload, 1) := by decide +kernel
theorem d_M_power_108 : decode prog_9_method_5_code 108 = .ok (.iastore, 1) := by decide +kernel
theorem d_M_power_109 : decode prog_9_method_5_code 109 = .ok (.aload_n 0, 1) := by decide +kernel
theorem d_M_power_110 : decode prog_9_method_5_code 110 = .ok (.getfield 80, 3) := by decide +kernel
theorem d_M_power_113 : decode prog_9_method_5_code 113 = .ok (.iload_n 3, 1) := by decide +kernel
theorem d_M_power_114 : decode prog_9_method_5_code 114 = .ok (.aload_n 0, 1) := by decide +kernel
theorem d_M_power_115 : decode prog_9_method_5_code 115 = .ok (.getfield 80, 3) := by decide +kernel
theorem d_M_power_118 : decode prog_9_method_5_code 118 = .ok (.iload 4, 2) := by decide +kernel
theorem d_M_power_120 : decode prog_9_method_5_code 120 = .ok (.iaload, 1) := by decide +kernel
theorem d_M_power_121 : decode prog_9_method_5_code 121 = .ok (.iastore, 1) := by decide +kernel
theorem d_M_power_122 : decode prog_9_method_5_code 122 = .ok (.aload_n 0, 1) := by decide +kernel
theorem d_M_power_123 : decode prog_9_method_5_code 123 = .ok (.getfield 83, 3) := by decide +kernel
theorem d_M_power_126 : decode prog_9_method_5_code 126 = .ok (.iload_n 3, 1) := by decide +kernel
theorem d_M_power_127 : decode prog_9_method_5_code 127 = .ok (.aload_n 0, 1) := by decide +kernel
theorem d_M_power_128 : decode prog_9_method_5_code 128 = .ok (.getfield 83, 3) := by decide +kernel
theorem d_M_power_131 : decode prog_9_method_5_code 131 = .ok (.iload 4, 2) := by decide +kernel
theorem d_M_power_133 : decode prog_9_method_5_code 133 = .ok (.iaload, 1) := by decide +kernel
theorem d_M_power_134 : decode prog_9_method_5_code 134 = .ok (.iastore, 1) := by decide +kernel
theorem d_M_power_135 : decode prog_9_method_5_code 135 = .ok (.aload_n 0, 1) := by decide +kernel
theorem d_M_power_136 : decode prog_9_method_5_code 136 = .ok (.getfield 86, 3) := by decide +kernel
theorem d_M_power_139 : decode prog_9_method_5_code 139 = .ok (.iload_n 3, 1) := by decide +kernel
theorem d_M_power_140 : decode prog_9_method_5_code 140 = .ok (.aload_n 0, 1) := by decide +kernel
theorem d_M_power_141 : decode prog_9_method_5_code 141 = .ok (.getfield 86, 3) := by decide +kernel
theorem d_M_power_144 : decode prog_9_method_5_code 144 = .ok (.iload 4, 2) := by decide +kernel
theorem d_M_power_146 : decode prog_9_method_5_code 146 = .ok (.baload, 1) := by decide +kernel
theorem d_M_power_147 : decode prog_9_method_5_code 147 = .ok (.bastore, 1) := by decide +kernel
theorem d_M_power_148 : decode prog_9_method_5_code 148 = .ok (.iinc 3 1, 3) := by decide +kernel
theorem d_M_power_151 : decode prog_9_method_5_code 151 = .ok (.iinc 4 1, 3) := by decide +kernel
theorem d_M_power_154 : decode prog_9_method_5_code 154 = .ok (.goto (-91), 3) := by decide +kernel
theorem d_M_power_157 : decode prog_9_method_5_code 157 = .ok (.aload_n 0, 1) := by decide +kernel
theorem d_M_power_158 : decode prog_9_method_5_code 158 = .ok (.iload_n 3, 1) := by decide +kernel
theorem d_M_power_159 : decode prog_9_method_5_code 159 = .ok (.putfield 115, 3) := by decide +kernel
theorem d_M_power_162 : decode prog_9_method_5_code 162 = .ok (.goto 21, 3) := by decide +kernel
theorem d_M_power_165 : decode prog_9_method_5_code 165 = .ok (.aload_n 0, 1) := by decide +kernel
theorem d_M_power_166 : decode prog_9_method_5_code 166 = .ok (.getfield 107, 3) := by decide +kernel
theorem d_M_power_169 : decode prog_9_method_5_code 169 = .ok (.iload_n 1, 1) := by decide +kernel
theorem d_M_power_170 : decode prog_9_method_5_code 170 = .ok (.if_icmp .ne 13, 3) := by decide +kernel
theorem d_M_power_173 : decode prog_9_method_5_code 173 = .ok (.aload_n 0, 1) := by decide +kernel
theorem d_M_power_174 : decode prog_9_method_5_code 174 = .ok (.iconst (-1), 1) := by decide +kernel
theorem d_M_power_175 : decode prog_9_method_5_code 175 = .ok (.putfield 107, 3) := by decide +kernel
theorem d_M_power_178 : decode prog_9_method_5_code 178 = .ok (.aload_n 0, 1) := by decide +kernel
theorem d_M_power_179 : decode prog_9_method_5_code 179 = .ok (.iconst 0, 1) := by decide +kernel
theorem d_M_power_180 : decode prog_9_method_5_code 180 = .ok (.putfield 118, 3) := by decide +kernel
theorem d_M_power_183 : decode prog_9_method_5_code 183 = .ok (.iconst 1, 1) := by decide +kernel
theorem d_M_power_184 : decode prog_9_method_5_code 184 = .ok (.ireturn, 1) := by decide +kernel
theorem d_M_sense_0 : decode prog_9_method_6_code 0 = .ok (.iload_n 1, 1) := by decide +kernel
theorem d_M_sense_1 : decode prog_9_method_6_code 1 = .ok (.invokestatic 111, 3) := by decide +kernel
theorem d_M_sense_4 : decode prog_9_method_6_code 4 = .ok (.ifCond .eq 16, 3) := by decide +kernel
theorem d_M_sense_7 : decode prog_9_method_6_code 7 = .ok (.iload_n 2, 1) := by decide +kernel
theorem d_M_sense_8 : decode prog_9_method_6_code 8 = .ok (.sipush (-10000), 3) := by decide +kernel
theorem d_M_sense_11 : decode prog_9_method_6_code 11 = .ok (.sipush 10000, 3) := by decide +kernel
theorem d_M_sense_14 : decode prog_9_method_6_code 14 = .ok (.invokestatic 121, 3) := by decide +kernel
theorem d_M_sense_17 : decode prog_9_method_6_code 17 = .ok (.ifCond .eq 5, 3) := by decide +kernel
theorem d_M_sense_20 : decode prog_9_method_6_code 20 = .ok (.iconst 0, 1) := by decide +kernel
theorem d_M_sense_21 : decode prog_9_method_6_code 21 = .ok (.ireturn, 1) := by decide +kernel
theorem d_M_sense_22 : decode prog_9_method_6_code 22 = .ok (.aload_n 0, 1) := by decide +kernel
theorem d_M_sense_23 : decode prog_9_method_6_code 23 = .ok (.getfield 26, 3) := by decide +kernel
theorem d_M_sense_26 : decode prog_9_method_6_code 26 = .ok (.iload_n 1, 1) := by decide +kernel
theorem d_M_sense_27 : decode prog_9_method_6_code 27 = .ok (.iload_n 2, 1) := by decide +kernel
theorem d_M_sense_28 : decode prog_9_method_6_code 28 = .ok (.iastore, 1) := by decide +kernel
theorem d_M_sense_29 : decode prog_9_method_6_code 29 = .ok (.iconst 1, 1) := by decide +kernel
theorem d_M_sense_30 : decode prog_9_method_6_code 30 = .ok (.ireturn, 1) := by decide +kernel
theorem d_M_gains_0 : decode prog_9_method_7_code 0 = .ok (.iload_n 1, 1) := by decide +kernel
theorem d_M_gains_1 : decode prog_9_method_7_code 1 = .ok (.invokestatic 111, 3) := by decide +kernel
theorem d_M_gains_4 : decode prog_9_method_7_code 4 = .ok (.ifCond .eq 23, 3) := by decide +kernel
theorem d_M_gains_7 : decode prog_9_method_7_code 7 = .ok (.iload_n 2, 1) := by decide +kernel
theorem d_M_gains_8 : decode prog_9_method_7_code 8 = .ok (.iconst 0, 1) := by decide +kernel
theorem d_M_gains_9 : decode prog_9_method_7_code 9 = .ok (.bipush 100, 2) := by decide +kernel
theorem d_M_gains_11 : decode prog_9_method_7_code 11 = .ok (.invokestatic 121, 3) := by decide +kernel
theorem d_M_gains_14 : decode prog_9_method_7_code 14 = .ok (.ifCond .ne 13, 3) := by decide +kernel
theorem d_M_gains_17 : decode prog_9_method_7_code 17 = .ok (.iload_n 3, 1) := by decide +kernel
theorem d_M_gains_18 : decode prog_9_method_7_code 18 = .ok (.iconst 0, 1) := by decide +kernel
theorem d_M_gains_19 : decode prog_9_method_7_code 19 = .ok (.bipush 100, 2) := by decide +kernel
theorem d_M_gains_21 : decode prog_9_method_7_code 21 = .ok (.invokestatic 121, 3) := by decide +kernel
theorem d_M_gains_24 : decode prog_9_method_7_code 24 = .ok (.ifCond .eq 5, 3) := by decide +kernel
theorem d_M_gains_27 : decode prog_9_method_7_code 27 = .ok (.iconst 0, 1) := by decide +kernel
theorem d_M_gains_28 : decode prog_9_method_7_code 28 = .ok (.ireturn, 1) := by decide +kernel
theorem d_M_gains_29 : decode prog_9_method_7_code 29 = .ok (.aload_n 0, 1) := by decide +kernel
theorem d_M_gains_30 : decode prog_9_method_7_code 30 = .ok (.getfield 32, 3) := by decide +kernel
theorem d_M_gains_33 : decode prog_9_method_7_code 33 = .ok (.iload_n 1, 1) := by decide +kernel
theorem d_M_gains_34 : decode prog_9_method_7_code 34 = .ok (.iload_n 2, 1) := by decide +kernel
theorem d_M_gains_35 : decode prog_9_method_7_code 35 = .ok (.iastore, 1) := by decide +kernel
theorem d_M_gains_36 : decode prog_9_method_7_code 36 = .ok (.aload_n 0, 1) := by decide +kernel
theorem d_M_gains_37 : decode prog_9_method_7_code 37 = .ok (.getfield 35, 3) := by decide +kernel
theorem d_M_gains_40 : decode prog_9_method_7_code 40 = .ok (.iload_n 1, 1) := by decide +kernel
theorem d_M_gains_41 : decode prog_9_method_7_code 41 = .ok (.iload_n 3, 1) := by decide +kernel
theorem d_M_gains_42 : decode prog_9_method_7_code 42 = .ok (.iastore, 1) := by decide +kernel
theorem d_M_gains_43 : decode prog_9_method_7_code 43 = .ok (.aload_n 0, 1) := by decide +kernel
theorem d_M_gains_44 : decode prog_9_method_7_code 44 = .ok (.getfield 38, 3) := by decide +kernel
theorem d_M_gains_47 : decode prog_9_method_7_code 47 = .ok (.iload_n 1, 1) := by decide +kernel
theorem d_M_gains_48 : decode prog_9_method_7_code 48 = .ok (.iconst 0, 1) := by decide +kernel
theorem d_M_gains_49 : decode prog_9_method_7_code 49 = .ok (.iastore, 1) := by decide +kernel
theorem d_M_gains_50 : decode prog_9_method_7_code 50 = .ok (.iconst 1, 1) := by decide +kernel
theorem d_M_gains_51 : decode prog_9_method_7_code 51 = .ok (.ireturn, 1) := by decide +kernel
theorem d_M_waiting_0 : decode prog_9_method_8_code 0 = .ok (.iconst 0, 1) := by decide +kernel
theorem d_M_waiting_1 : decode prog_9_method_8_code 1 = .ok (.istore_n 2, 1) := by decide +kernel
theorem d_M_waiting_2 : decode prog_9_method_8_code 2 = .ok (.iconst 0, 1) := by decide +kernel
theorem d_M_waiting_3 : decode prog_9_method_8_code 3 = .ok (.istore_n 3, 1) := by decide +kernel
theorem d_M_waiting_4 : decode prog_9_method_8_code 4 = .ok (.iload_n 3, 1) := by decide +kernel
theorem d_M_waiting_5 : decode prog_9_method_8_code 5 = .ok (.aload_n 0, 1) := by decide +kernel
theorem d_M_waiting_6 : decode prog_9_method_8_code 6 = .ok (.getfield 125, 3) := by decide +kernel
theorem d_M_waiting_9 : decode prog_9_method_8_code 9 = .ok (.if_icmp .ge 36, 3) := by decide +kernel
theorem d_M_waiting_12 : decode prog_9_method_8_code 12 = .ok (.aload_n 0, 1) := by decide +kernel
theorem d_M_waiting_13 : decode prog_9_method_8_code 13 = .ok (.getfield 47, 3) := by decide +kernel
theorem d_M_waiting_16 : decode prog_9_method_8_code 16 = .ok (.iload_n 3, 1) := by decide +kernel
theorem d_M_waiting_17 : decode prog_9_method_8_code 17 = .ok (.iaload, 1) := by decide +kernel
theorem d_M_waiting_18 : decode prog_9_method_8_code 18 = .ok (.iload_n 1, 1) := by decide +kernel
theorem d_M_waiting_19 : decode prog_9_method_8_code 19 = .ok (.if_icmp .ne 18, 3) := by decide +kernel
theorem d_M_waiting_22 : decode prog_9_method_8_code 22 = .ok (.aload_n 0, 1) := by decide +kernel
theorem d_M_waiting_23 : decode prog_9_method_8_code 23 = .ok (.getfield 59, 3) := by decide +kernel
theorem d_M_waiting_26 : decode prog_9_method_8_code 26 = .ok (.iload_n 3, 1) := by decide +kernel
theorem d_M_waiting_27 : decode prog_9_method_8_code 27 = .ok (.iaload, 1) := by decide +kernel
theorem d_M_waiting_28 : decode prog_9_method_8_code 28 = .ok (.ifCond .ne 9, 3) := by decide +kernel
theorem d_M_waiting_31 : decode prog_9_method_8_code 31 = .ok (.iload_n 2, 1) := by decide +kernel
theorem d_M_waiting_32 : decode prog_9_method_8_code 32 = .ok (.iconst 1, 1) := by decide +kernel
theorem d_M_waiting_33 : decode prog_9_method_8_code 33 = .ok (.iadd, 1) := by decide +kernel
theorem d_M_waiting_34 : decode prog_9_method_8_code 34 = .ok (.goto 4, 3) := by decide +kernel
theorem d_M_waiting_37 : decode prog_9_method_8_code 37 = .ok (.iload_n 2, 1) := by decide +kernel
theorem d_M_waiting_38 : decode prog_9_method_8_code 38 = .ok (.istore_n 2, 1) := by decide +kernel
theorem d_M_waiting_39 : decode prog_9_method_8_code 39 = .ok (.iinc 3 1, 3) := by decide +kernel
theorem d_M_waiting_42 : decode prog_9_method_8_code 42 = .ok (.goto (-38), 3) := by decide +kernel
theorem d_M_waiting_45 : decode prog_9_method_8_code 45 = .ok (.iload_n 2, 1) := by decide +kernel
theorem d_M_waiting_46 : decode prog_9_method_8_code 46 = .ok (.ireturn, 1) := by decide +kernel
theorem d_M_request_0 : decode prog_9_method_9_code 0 = .ok (.iload_n 1, 1) := by decide +kernel
theorem d_M_request_1 : decode prog_9_method_9_code 1 = .ok (.invokestatic 111, 3) := by decide +kernel
theorem d_M_request_4 : decode prog_9_method_9_code 4 = .ok (.ifCond .eq 26, 3) := by decide +kernel
theorem d_M_request_7 : decode prog_9_method_9_code 7 = .ok (.iload_n 2, 1) := by decide +kernel
theorem d_M_request_8 : decode prog_9_method_9_code 8 = .ok (.invokestatic 111, 3) := by decide +kernel
theorem d_M_request_11 : decode prog_9_method_9_code 11 = .ok (.ifCond .eq 19, 3) := by decide +kernel
theorem d_M_request_14 : decode prog_9_method_9_code 14 = .ok (.iload_n 1, 1) := by decide +kernel
theorem d_M_request_15 : decode prog_9_method_9_code 15 = .ok (.iload_n 2, 1) := by decide +kernel
theorem d_M_request_16 : decode prog_9_method_9_code 16 = .ok (.if_icmp .eq 14, 3) := by decide +kernel
theorem d_M_request_19 : decode prog_9_method_9_code 19 = .ok (.iload_n 3, 1) := by decide +kernel
theorem d_M_request_20 : decode prog_9_method_9_code 20 = .ok (.iconst 0, 1) := by decide +kernel
theorem d_M_request_21 : decode prog_9_method_9_code 21 = .ok (.sipush 2047, 3) := by decide +kernel
theorem d_M_request_24 : decode prog_9_method_9_code 24 = .ok (.invokestatic 121, 3) := by decide +kernel
theorem d_M_request_27 : decode prog_9_method_9_code 27 = .ok (.ifCond .eq 5, 3) := by decide +kernel
theorem d_M_request_30 : decode prog_9_method_9_code 30 = .ok (.iconst (-1), 1) := by decide +kernel
theorem d_M_request_31 : decode prog_9_method_9_code 31 = .ok (.ireturn, 1) := by decide +kernel
theorem d_M_request_32 : decode prog_9_method_9_code 32 = .ok (.aload_n 0, 1) := by decide +kernel
theorem d_M_request_33 : decode prog_9_method_9_code 33 = .ok (.getfield 125, 3) := by decide +kernel
theorem d_M_request_36 : decode prog_9_method_9_code 36 = .ok (.bipush 60, 2) := by decide +kernel
theorem d_M_request_38 : decode prog_9_method_9_code 38 = .ok (.if_icmp .eq 12, 3) := by decide +kernel
theorem d_M_request_41 : decode prog_9_method_9_code 41 = .ok (.aload_n 0, 1) := by decide +kernel
theorem d_M_request_42 : decode prog_9_method_9_code 42 = .ok (.iload_n 1, 1) := by decide +kernel
theorem d_M_request_43 : decode prog_9_method_9_code 43 = .ok (.invokevirtual 128, 3) := by decide +kernel
theorem d_M_request_46 : decode prog_9_method_9_code 46 = .ok (.iconst 4, 1) := by decide +kernel
theorem d_M_request_47 : decode prog_9_method_9_code 47 = .ok (.if_icmp .ne 6, 3) := by decide +kernel
theorem d_M_request_50 : decode prog_9_method_9_code 50 = .ok (.bipush (-2), 2) := by decide +kernel
theorem d_M_request_52 : decode prog_9_method_9_code 52 = .ok (.ireturn, 1) := by decide +kernel
theorem d_M_request_53 : decode prog_9_method_9_code 53 = .ok (.aload_n 0, 1) := by decide +kernel
theorem d_M_request_54 : decode prog_9_method_9_code 54 = .ok (.getfield 47, 3) := by decide +kernel
theorem d_M_request_57 : decode prog_9_method_9_code 57 = .ok (.aload_n 0, 1) := by decide +kernel
theorem d_M_request_58 : decode prog_9_method_9_code 58 = .ok (.getfield 125, 3) := by decide +kernel
theorem d_M_request_61 : decode prog_9_method_9_code 61 = .ok (.iload_n 1, 1) := by decide +kernel
theorem d_M_request_62 : decode prog_9_method_9_code 62 = .ok (.iastore, 1) := by decide +kernel
theorem d_M_request_63 : decode prog_9_method_9_code 63 = .ok (.aload_n 0, 1) := by decide +kernel
theorem d_M_request_64 : decode prog_9_method_9_code 64 = .ok (.getfield 50, 3) := by decide +kernel
theorem d_M_request_67 : decode prog_9_method_9_code 67 = .ok (.aload_n 0, 1) := by decide +kernel
theorem d_M_request_68 : decode prog_9_method_9_code 68 = .ok (.getfield 125, 3) := by decide +kernel
theorem d_M_request_71 : decode prog_9_method_9_code 71 = .ok (.iload_n 2, 1) := by decide +kernel
theorem d_M_request_72 : decode prog_9_method_9_code 72 = .ok (.iastore, 1) := by decide +kernel
theorem d_M_request_73 : decode prog_9_method_9_code 73 = .ok (.aload_n 0, 1) := by decide +kernel
theorem d_M_request_74 : decode prog_9_method_9_code 74 = .ok (.getfield 53, 3) := by decide +kernel
theorem d_M_request_77 : decode prog_9_method_9_code 77 = .ok (.aload_n 0, 1) := by decide +kernel
theorem d_M_request_78 : decode prog_9_method_9_code 78 = .ok (.getfield 125, 3) := by decide +kernel
theorem d_M_request_81 : decode prog_9_method_9_code 81 = .ok (.iload_n 3, 1) := by decide +kernel
theorem d_M_request_82 : decode prog_9_method_9_code 82 = .ok (.iastore, 1) := by decide +kernel
theorem d_M_request_83 : decode prog_9_method_9_code 83 = .ok (.aload_n 0, 1) := by decide +kernel
theorem d_M_request_84 : decode prog_9_method_9_code 84 = .ok (.getfield 56, 3) := by decide +kernel
theorem d_M_request_87 : decode prog_9_method_9_code 87 = .ok (.aload_n 0, 1) := by decide +kernel
theorem d_M_request_88 : decode prog_9_method_9_code 88 = .ok (.getfield 125, 3) := by decide +kernel
theorem d_M_request_91 : decode prog_9_method_9_code 91 = .ok (.iload 4, 2) := by decide +kernel
theorem d_M_request_93 : decode prog_9_method_9_code 93 = .ok (.iastore, 1) := by decide +kernel
theorem d_M_request_94 : decode prog_9_method_9_code 94 = .ok (.aload_n 0, 1) := by decide +kernel
theorem d_M_request_95 : decode prog_9_method_9_code 95 = .ok (.dup, 1) := by decide +kernel
theorem d_M_request_96 : decode prog_9_method_9_code 96 = .ok (.getfield 125, 3) := by decide +kernel
theorem d_M_request_99 : decode prog_9_method_9_code 99 = .ok (.iconst 1, 1) := by decide +kernel
theorem d_M_request_100 : decode prog_9_method_9_code 100 = .ok (.iadd, 1) := by decide +kernel
theorem d_M_request_101 : decode prog_9_method_9_code 101 = .ok (.putfield 125, 3) := by decide +kernel
theorem d_M_request_104 : decode prog_9_method_9_code 104 = .ok (.aload_n 0, 1) := by decide +kernel
theorem d_M_request_105 : decode prog_9_method_9_code 105 = .ok (.getfield 125, 3) := by decide +kernel
theorem d_M_request_108 : decode prog_9_method_9_code 108 = .ok (.iconst 1, 1) := by decide +kernel
theorem d_M_request_109 : decode prog_9_method_9_code 109 = .ok (.isub, 1) := by decide +kernel
theorem d_M_request_110 : decode prog_9_method_9_code 110 = .ok (.ireturn, 1) := by decide +kernel
theorem d_M_spoil_0 : decode prog_9_method_10_code 0 = .ok (.iload_n 1, 1) := by decide +kernel
theorem d_M_spoil_1 : decode prog_9_method_10_code 1 = .ok (.iconst 0, 1) := by decide +kernel
theorem d_M_spoil_2 : decode prog_9_method_10_code 2 = .ok (.iconst 1, 1) := by decide +kernel
theorem d_M_spoil_3 : decode prog_9_method_10_code 3 = .ok (.invokestatic 121, 3) := by decide +kernel
theorem d_M_spoil_6 : decode prog_9_method_10_code 6 = .ok (.ifCond .ne 24, 3) := by decide +kernel
theorem d_M_spoil_9 : decode prog_9_method_10_code 9 = .ok (.iload_n 2, 1) := by decide +kernel
theorem d_M_spoil_10 : decode prog_9_method_10_code 10 = .ok (.iconst 0, 1) := by decide +kernel
theorem d_M_spoil_11 : decode prog_9_method_10_code 11 = .ok (.bipush 17, 2) := by decide +kernel
theorem d_M_spoil_13 : decode prog_9_method_10_code 13 = .ok (.invokestatic 121, 3) := by decide +kernel
theorem d_M_spoil_16 : decode prog_9_method_10_code 16 = .ok (.ifCond .ne 14, 3) := by decide +kernel
theorem d_M_spoil_19 : decode prog_9_method_10_code 19 = .ok (.iload_n 3, 1) := by decide +kernel
theorem d_M_spoil_20 : decode prog_9_method_10_code 20 = .ok (.iconst 1, 1) := by decide +kernel
theorem d_M_spoil_21 : decode prog_9_method_10_code 21 = .ok (.sipush 255, 3) := by decide +kernel
theorem d_M_spoil_24 : decode prog_9_method_10_code 24 = .ok (.invokestatic 121, 3) := by decide +kernel
theorem d_M_spoil_27 : decode prog_9_method_10_code 27 = .ok (.ifCond .eq 5, 3) := by decide +kernel
theorem d_M_spoil_30 : decode prog_9_method_10_code 30 = .ok (.iconst 0, 1) := by decide +kernel
theorem d_M_spoil_31 : decode prog_9_method_10_code 31 = .ok (.ireturn, 1) := by decide +kernel
theorem d_M_spoil_32 : decode prog_9_method_10_code 32 = .ok (.aload_n 0, 1) := by decide +kernel
theorem d_M_spoil_33 : decode prog_9_method_10_code 33 = .ok (.iload_n 1, 1) := by decide +kernel
theorem d_M_spoil_34 : decode prog_9_method_10_code 34 = .ok (.putfield 132, 3) := by decide +kernel
theorem d_M_spoil_37 : decode prog_9_method_10_code 37 = .ok (.aload_n 0, 1) := by decide +kernel
theorem d_M_spoil_38 : decode prog_9_method_10_code 38 = .ok (.iload_n 2, 1) := by decide +kernel
theorem d_M_spoil_39 : decode prog_9_method_10_code 39 = .ok (.putfield 135, 3) := by decide +kernel
theorem d_M_spoil_42 : decode prog_9_method_10_code 42 = .ok (.aload_n 0, 1) := by decide +kernel
theorem d_M_spoil_43 : decode prog_9_method_10_code 43 = .ok (.iload_n 3, 1) := by decide +kernel
theorem d_M_spoil_44 : decode prog_9_method_10_code 44 = .ok (.putfield 138, 3) := by decide +kernel
theorem d_M_spoil_47 : decode prog_9_method_10_code 47 = .ok (.iconst 1, 1) := by decide +kernel
theorem d_M_spoil_48 : decode prog_9_method_10_code 48 = .ok (.ireturn, 1) := by decide +kernel
theorem d_M_grown_0 : decode prog_9_method_11_code 0 = .ok (.iload_n 0, 1) := by decide +kernel
theorem d_M_grown_1 : decode prog_9_method_11_code 1 = .ok (.istore_n 3, 1) := by decide +kernel
theorem d_M_grown_2 : decode prog_9_method_11_code 2 = .ok (.iconst 0, 1) := by decide +kernel
theorem d_M_grown_3 : decode prog_9_method_11_code 3 = .ok (.istore 4, 2) := by decide +kernel
theorem d_M_grown_5 : decode prog_9_method_11_code 5 = .ok (.iload 4, 2) := by decide +kernel
theorem d_M_grown_7 : decode prog_9_method_11_code 7 = .ok (.bipush 8, 2) := by decide +kernel
theorem d_M_grown_9 : decode prog_9_method_11_code 9 = .ok (.if_icmp .ge 45, 3) := by decide +kernel
theorem d_M_grown_12 : decode prog_9_method_11_code 12 = .ok (.iload_n 3, 1) := by decide +kernel
theorem d_M_grown_13 : decode prog_9_method_11_code 13 = .ok (.iconst 1, 1) := by decide +kernel
theorem d_M_grown_14 : decode prog_9_method_11_code 14 = .ok (.iand, 1) := by decide +kernel
theorem d_M_grown_15 : decode prog_9_method_11_code 15 = .ok (.iload_n 1, 1) := by decide +kernel
theorem d_M_grown_16 : decode prog_9_method_11_code 16 = .ok (.iload 4, 2) := by decide +kernel
theorem d_M_grown_18 : decode prog_9_method_11_code 18 = .ok (.ishr, 1) := by decide +kernel
theorem d_M_grown_19 : decode prog_9_method_11_code 19 = .ok (.iconst 1, 1) := by decide +kernel
theorem d_M_grown_20 : decode prog_9_method_11_code 20 = .ok (.iand, 1) := by decide +kernel
theorem d_M_grown_21 : decode prog_9_method_11_code 21 = .ok (.if_icmp .eq 7, 3) := by decide +kernel
theorem d_M_grown_24 : decode prog_9_method_11_code 24 = .ok (.iconst 1, 1) := by decide +kernel
theorem d_M_grown_25 : decode prog_9_method_11_code 25 = .ok (.goto 4, 3) := by decide +kernel
theorem d_M_grown_28 : decode prog_9_method_11_code 28 = .ok (.iconst 0, 1) := by decide +kernel
theorem d_M_grown_29 : decode prog_9_method_11_code 29 = .ok (.istore 5, 2) := by decide +kernel
theorem d_M_grown_31 : decode prog_9_method_11_code 31 = .ok (.iload 5, 2) := by decide +kernel
theorem d_M_grown_33 : decode prog_9_method_11_code 33 = .ok (.ifCond .eq 11, 3) := by decide +kernel
theorem d_M_grown_36 : decode prog_9_method_11_code 36 = .ok (.iload_n 3, 1) := by decide +kernel
theorem d_M_grown_37 : decode prog_9_method_11_code 37 = .ok (.iconst 2, 1) := by decide +kernel
theorem d_M_grown_38 : decode prog_9_method_11_code 38 = .ok (.idiv, 1) := by decide +kernel
theorem d_M_grown_39 : decode prog_9_method_11_code 39 = .ok (.iload_n 2, 1) := by decide +kernel
theorem d_M_grown_40 : decode prog_9_method_11_code 40 = .ok (.ixor, 1) := by decide +kernel
theorem d_M_grown_41 : decode prog_9_method_11_code 41 = .ok (.goto 6, 3) := by decide +kernel
theorem d_M_grown_44 : decode prog_9_method_11_code 44 = .ok (.iload_n 3, 1) := by decide +kernel
theorem d_M_grown_45 : decode prog_9_method_11_code 45 = .ok (.iconst 2, 1) := by decide +kernel
theorem d_M_grown_46 : decode prog_9_method_11_code 46 = .ok (.idiv, 1) := by decide +kernel
theorem d_M_grown_47 : decode prog_9_method_11_code 47 = .ok (.istore_n 3, 1) := by decide +kernel
theorem d_M_grown_48 : decode prog_9_method_11_code 48 = .ok (.iinc 4 1, 3) := by decide +kernel
theorem d_M_grown_51 : decode prog_9_method_11_code 51 = .ok (.goto (-46), 3) := by decide +kernel
theorem d_M_grown_54 : decode prog_9_method_11_code 54 = .ok (.iload_n 3, 1) := by decide +kernel
theorem d_M_grown_55 : decode prog_9_method_11_code 55 = .ok (.ireturn, 1) := by decide +kernel
theorem d_M_headCheck_0 : decode prog_9_method_12_code 0 = .ok (.sipush 255, 3) := by decide +kernel
theorem d_M_headCheck_3 : decode prog_9_method_12_code 3 = .ok (.istore_n 2, 1) := by decide +kernel
theorem d_M_headCheck_4 : decode prog_9_method_12_code 4 = .ok (.iconst 2, 1) := by decide +kernel
theorem d_M_headCheck_5 : decode prog_9_method_12_code 5 = .ok (.istore_n 3, 1) := by decide +kernel
theorem d_M_headCheck_6 : decode prog_9_method_12_code 6 = .ok (.iload_n 3, 1) := by decide +kernel
theorem d_M_headCheck_7 : decode prog_9_method_12_code 7 = .ok (.bipush 7, 2) := by decide +kernel
theorem d_M_headCheck_9 : decode prog_9_method_12_code 9 = .ok (.if_icmp .ge 28, 3) := by decide +kernel
theorem d_M_headCheck_12 : decode prog_9_method_12_code 12 = .ok (.iload_n 2, 1) := by decide +kernel
theorem d_M_headCheck_13 : decode prog_9_method_12_code 13 = .ok (.aload_n 0, 1) := by decide +kernel
theorem d_M_headCheck_14 : decode prog_9_method_12_code 14 = .ok (.getfield 101, 3) := by decide +kernel
theorem d_M_headCheck_17 : decode prog_9_method_12_code 17 = .ok (.bipush 18, 2) := by decide +kernel
theorem d_M_headCheck_19 : decode prog_9_method_12_code 19 = .ok (.iload_n 1, 1) := by decide +kernel
theorem d_M_headCheck_20 : decode prog_9_method_12_code 20 = .ok (.imul, 1) := by decide +kernel
theorem d_M_headCheck_21 : decode prog_9_method_12_code 21 = .ok (.iload_n 3, 1) := by decide +kernel
theorem d_M_headCheck_22 : decode prog_9_method_12_code 22 = .ok (.iadd, 1) := by decide +kernel
theorem d_M_headCheck_23 : decode prog_9_method_12_code 23 = .ok (.iaload, 1) := by decide +kernel
theorem d_M_headCheck_24 : decode prog_9_method_12_code 24 = .ok (.sipush 129, 3) := by decide +kernel
theorem d_M_headCheck_27 : decode prog_9_method_12_code 27 = .ok (.invokestatic 141, 3) := by decide +kernel
theorem d_M_headCheck_30 : decode prog_9_method_12_code 30 = .ok (.istore_n 2, 1) := by decide +kernel
theorem d_M_headCheck_31 : decode prog_9_method_12_code 31 = .ok (.iinc 3 1, 3) := by decide +kernel
theorem d_M_headCheck_34 : decode prog_9_method_12_code 34 = .ok (.goto (-28), 3) := by decide +kernel
theorem d_M_headCheck_37 : decode prog_9_method_12_code 37 = .ok (.sipush 255, 3) := by decide +kernel
theorem d_M_headCheck_40 : decode prog_9_method_12_code 40 = .ok (.iload_n 2, 1) := by decide +kernel
theorem d_M_headCheck_41 : decode prog_9_method_12_code 41 = .ok (.isub, 1) := by decide +kernel
theorem d_M_headCheck_42 : decode prog_9_method_12_code 42 = .ok (.ireturn, 1) := by decide +kernel
theorem d_M_dataCheck_0 : decode prog_9_method_13_code 0 = .ok (.ldc 145, 2) := by decide +kernel
theorem d_M_dataCheck_2 : decode prog_9_method_13_code 2 = .ok (.istore_n 2, 1) := by decide +kernel
theorem d_M_dataCheck_3 : decode prog_9_method_13_code 3 = .ok (.bipush 8, 2) := by decide +kernel
theorem d_M_dataCheck_5 : decode prog_9_method_13_code 5 = .ok (.istore_n 3, 1) := by decide +kernel
theorem d_M_dataCheck_6 : decode prog_9_method_13_code 6 = .ok (.iload_n 3, 1) := by decide +kernel
theorem d_M_dataCheck_7 : decode prog_9_method_13_code 7 = .ok (.bipush 16, 2) := by decide +kernel
theorem d_M_dataCheck_9 : decode prog_9_method_13_code 9 = .ok (.if_icmp .ge 27, 3) := by decide +kernel
theorem d_M_dataCheck_12 : decode prog_9_method_13_code 12 = .ok (.iload_n 2, 1) := by decide +kernel
theorem d_M_dataCheck_13 : decode prog_9_method_13_code 13 = .ok (.aload_n 0, 1) := by decide +kernel
theorem d_M_dataCheck_14 : decode prog_9_method_13_code 14 = .ok (.getfield 101, 3) := by decide +kernel
theorem d_M_dataCheck_17 : decode prog_9_method_13_code 17 = .ok (.bipush 18, 2) := by decide +kernel
theorem d_M_dataCheck_19 : decode prog_9_method_13_code 19 = .ok (.iload_n 1, 1) := by decide +kernel
theorem d_M_dataCheck_20 : decode prog_9_method_13_code 20 = .ok (.imul, 1) := by decide +kernel
theorem d_M_dataCheck_21 : decode prog_9_method_13_code 21 = .ok (.iload_n 3, 1) := by decide +kernel
theorem d_M_dataCheck_22 : decode prog_9_method_13_code 22 = .ok (.iadd, 1) := by decide +kernel
theorem d_M_dataCheck_23 : decode prog_9_method_13_code 23 = .ok (.iaload, 1) := by decide +kernel
theorem d_M_dataCheck_24 : decode prog_9_method_13_code 24 = .ok (.ldc 146, 2) := by decide +kernel
theorem d_M_dataCheck_26 : decode prog_9_method_13_code 26 = .ok (.invokestatic 141, 3) := by decide +kernel
theorem d_M_dataCheck_29 : decode prog_9_method_13_code 29 = .ok (.istore_n 2, 1) := by decide +kernel
theorem d_M_dataCheck_30 : decode prog_9_method_13_code 30 = .ok (.iinc 3 1, 3) := by decide +kernel
theorem d_M_dataCheck_33 : decode prog_9_method_13_code 33 = .ok (.goto (-27), 3) := by decide +kernel
theorem d_M_dataCheck_36 : decode prog_9_method_13_code 36 = .ok (.ldc 145, 2) := by decide +kernel
theorem d_M_dataCheck_38 : decode prog_9_method_13_code 38 = .ok (.iload_n 2, 1) := by decide +kernel
theorem d_M_dataCheck_39 : decode prog_9_method_13_code 39 = .ok (.isub, 1) := by decide +kernel
theorem d_M_dataCheck_40 : decode prog_9_method_13_code 40 = .ok (.ireturn, 1) := by decide +kernel
theorem d_M_carry_0 : decode prog_9_method_14_code 0 = .ok (.aload_n 0, 1) := by decide +kernel
theorem d_M_carry_1 : decode prog_9_method_14_code 1 = .ok (.getfield 147, 3) := by decide +kernel
theorem d_M_carry_4 : decode prog_9_method_14_code 4 = .ok (.istore 5, 2) := by decide +kernel
theorem d_M_carry_6 : decode prog_9_method_14_code 6 = .ok (.aload_n 0, 1) := by decide +kernel
theorem d_M_carry_7 : decode prog_9_method_14_code 7 = .ok (.dup, 1) := by decide +kernel
theorem d_M_carry_8 : decode prog_9_method_14_code 8 = .ok (.getfield 147, 3) := by decide +kernel
theorem d_M_carry_11 : decode prog_9_method_14_code 11 = .ok (.iconst 1, 1) := by decide +kernel
theorem d_M_carry_12 : decode prog_9_method_14_code 12 = .ok (.iadd, 1) := by decide +kernel
theorem d_M_carry_13 : decode prog_9_method_14_code 13 = .ok (.putfield 147, 3) := by decide +kernel
theorem d_M_carry_16 : decode prog_9_method_14_code 16 = .ok (.bipush 18, 2) := by decide +kernel
theorem d_M_carry_18 : decode prog_9_method_14_code 18 = .ok (.iload 5, 2) := by decide +kernel
theorem d_M_carry_20 : decode prog_9_method_14_code 20 = .ok (.imul, 1) := by decide +kernel
theorem d_M_carry_21 : decode prog_9_method_14_code 21 = .ok (.istore 6, 2) := by decide +kernel
theorem d_M_carry_23 : decode prog_9_method_14_code 23 = .ok (.aload_n 0, 1) := by decide +kernel
theorem d_M_carry_24 : decode prog_9_method_14_code 24 = .ok (.getfield 101, 3) := by decide +kernel
theorem d_M_carry_27 : decode prog_9_method_14_code 27 = .ok (.iload 6, 2) := by decide +kernel
theorem d_M_carry_29 : decode prog_9_method_14_code 29 = .ok (.bipush 85, 2) := by decide +kernel
theorem d_M_carry_31 : decode prog_9_method_14_code 31 = .ok (.iastore, 1) := by decide +kernel
theorem d_M_carry_32 : decode prog_9_method_14_code 32 = .ok (.aload_n 0, 1) := by decide +kernel
theorem d_M_carry_33 : decode prog_9_method_14_code 33 = .ok (.getfield 101, 3) := by decide +kernel
theorem d_M_carry_36 : decode prog_9_method_14_code 36 = .ok (.iload 6, 2) := by decide +kernel
theorem d_M_carry_38 : decode prog_9_method_14_code 38 = .ok (.iconst 1, 1) := by decide +kernel
theorem d_M_carry_39 : decode prog_9_method_14_code 39 = .ok (.iadd, 1) := by decide +kernel
theorem d_M_carry_40 : decode prog_9_method_14_code 40 = .ok (.sipush 255, 3) := by decide +kernel
theorem d_M_carry_43 : decode prog_9_method_14_code 43 = .ok (.iastore, 1) := by decide +kernel
theorem d_M_carry_44 : decode prog_9_method_14_code 44 = .ok (.aload_n 0, 1) := by decide +kernel
theorem d_M_carry_45 : decode prog_9_method_14_code 45 = .ok (.getfield 101, 3) := by decide +kernel
theorem d_M_carry_48 : decode prog_9_method_14_code 48 = .ok (.iload 6, 2) := by decide +kernel
theorem d_M_carry_50 : decode prog_9_method_14_code 50 = .ok (.iconst 2, 1) := by decide +kernel
theorem d_M_carry_51 : decode prog_9_method_14_code 51 = .ok (.iadd, 1) := by decide +kernel
theorem d_M_carry_52 : decode prog_9_method_14_code 52 = .ok (.iload_n 1, 1) := by decide +kernel
theorem d_M_carry_53 : decode prog_9_method_14_code 53 = .ok (.iastore, 1) := by decide +kernel
theorem d_M_carry_54 : decode prog_9_method_14_code 54 = .ok (.aload_n 0, 1) := by decide +kernel
theorem d_M_carry_55 : decode prog_9_method_14_code 55 = .ok (.getfield 101, 3) := by decide +kernel
theorem d_M_carry_58 : decode prog_9_method_14_code 58 = .ok (.iload 6, 2) := by decide +kernel
theorem d_M_carry_60 : decode prog_9_method_14_code 60 = .ok (.iconst 3, 1) := by decide +kernel
theorem d_M_carry_61 : decode prog_9_method_14_code 61 = .ok (.iadd, 1) := by decide +kernel
theorem d_M_carry_62 : decode prog_9_method_14_code 62 = .ok (.iload_n 2, 1) := by decide +kernel
theorem d_M_carry_63 : decode prog_9_method_14_code 63 = .ok (.iastore, 1) := by decide +kernel
theorem d_M_carry_64 : decode prog_9_method_14_code 64 = .ok (.aload_n 0, 1) := by decide +kernel
theorem d_M_carry_65 : decode prog_9_method_14_code 65 = .ok (.getfield 101, 3) := by decide +kernel
theorem d_M_carry_68 : decode prog_9_method_14_code 68 = .ok (.iload 6, 2) := by decide +kernel
theorem d_M_carry_70 : decode prog_9_method_14_code 70 = .ok (.iconst 4, 1) := by decide +kernel
theorem d_M_carry_71 : decode prog_9_method_14_code 71 = .ok (.iadd, 1) := by decide +kernel
theorem d_M_carry_72 : decode prog_9_method_14_code 72 = .ok (.iload_n 3, 1) := by decide +kernel
theorem d_M_carry_73 : decode prog_9_method_14_code 73 = .ok (.iastore, 1) := by decide +kernel
theorem d_M_carry_74 : decode prog_9_method_14_code 74 = .ok (.aload_n 0, 1) := by decide +kernel
theorem d_M_carry_75 : decode prog_9_method_14_code 75 = .ok (.getfield 101, 3) := by decide +kernel
theorem d_M_carry_78 : decode prog_9_method_14_code 78 = .ok (.iload 6, 2) := by decide +kernel
theorem d_M_carry_80 : decode prog_9_method_14_code 80 = .ok (.iconst 5, 1) := by decide +kernel
theorem d_M_carry_81 : decode prog_9_method_14_code 81 = .ok (.iadd, 1) := by decide +kernel
theorem d_M_carry_82 : decode prog_9_method_14_code 82 = .ok (.iconst 0, 1) := by decide +kernel
theorem d_M_carry_83 : decode prog_9_method_14_code 83 = .ok (.iastore, 1) := by decide +kernel
theorem d_M_carry_84 : decode prog_9_method_14_code 84 = .ok (.aload_n 0, 1) := by decide +kernel
theorem d_M_carry_85 : decode prog_9_method_14_code 85 = .ok (.getfield 101, 3) := by decide +kernel
theorem d_M_carry_88 : decode prog_9_method_14_code 88 = .ok (.iload 6, 2) := by decide +kernel
theorem d_M_carry_90 : decode prog_9_method_14_code 90 = .ok (.bipush 6, 2) := by decide +kernel
theorem d_M_carry_92 : decode prog_9_method_14_code 92 = .ok (.iadd, 1) := by decide +kernel
theorem d_M_carry_93 : decode prog_9_method_14_code 93 = .ok (.iload 4, 2) := by decide +kernel
theorem d_M_carry_95 : decode prog_9_method_14_code 95 = .ok (.ifCond .eq 8, 3) := by decide +kernel
theorem d_M_carry_98 : decode prog_9_method_14_code 98 = .ok (.bipush 8, 2) := by decide +kernel
theorem d_M_carry_100 : decode prog_9_method_14_code 100 = .ok (.goto 4, 3) := by decide +kernel
theorem d_M_carry_103 : decode prog_9_method_14_code 103 = .ok (.iconst 0, 1) := by decide +kernel
theorem d_M_carry_104 : decode prog_9_method_14_code 104 = .ok (.iastore, 1) := by decide +kernel
theorem d_M_carry_105 : decode prog_9_method_14_code 105 = .ok (.aload_n 0, 1) := by decide +kernel
theorem d_M_carry_106 : decode prog_9_method_14_code 106 = .ok (.getfield 101, 3) := by decide +kernel
theorem d_M_carry_109 : decode prog_9_method_14_code 109 = .ok (.iload 6, 2) := by decide +kernel
theorem d_M_carry_111 : decode prog_9_method_14_code 111 = .ok (.bipush 7, 2) := by decide +kernel
theorem d_M_carry_113 : decode prog_9_method_14_code 113 = .ok (.iadd, 1) := by decide +kernel
theorem d_M_carry_114 : decode prog_9_method_14_code 114 = .ok (.aload_n 0, 1) := by decide +kernel
theorem d_M_carry_115 : decode prog_9_method_14_code 115 = .ok (.iload 5, 2) := by decide +kernel
theorem d_M_carry_117 : decode prog_9_method_14_code 117 = .ok (.invokevirtual 150, 3) := by decide +kernel
theorem d_M_carry_120 : decode prog_9_method_14_code 120 = .ok (.iastore, 1) := by decide +kernel
theorem d_M_carry_121 : decode prog_9_method_14_code 121 = .ok (.aload_n 0, 1) := by decide +kernel
theorem d_M_carry_122 : decode prog_9_method_14_code 122 = .ok (.getfield 104, 3) := by decide +kernel
theorem d_M_carry_125 : decode prog_9_method_14_code 125 = .ok (.iload 5, 2) := by decide +kernel
theorem d_M_carry_127 : decode prog_9_method_14_code 127 = .ok (.iload 4, 2) := by decide +kernel
theorem d_M_carry_129 : decode prog_9_method_14_code 129 = .ok (.ifCond .eq 8, 3) := by decide +kernel
theorem d_M_carry_132 : decode prog_9_method_14_code 132 = .ok (.bipush 18, 2) := by decide +kernel
theorem d_M_carry_134 : decode prog_9_method_14_code 134 = .ok (.goto 5, 3) := by decide +kernel
theorem d_M_carry_137 : decode prog_9_method_14_code 137 = .ok (.bipush 8, 2) := by decide +kernel
theorem d_M_carry_139 : decode prog_9_method_14_code 139 = .ok (.iastore, 1) := by decide +kernel
theorem d_M_carry_140 : decode prog_9_method_14_code 140 = .ok (.iload 4, 2) := by decide +kernel
theorem d_M_carry_142 : decode prog_9_method_14_code 142 = .ok (.ifCond .eq 43, 3) := by decide +kernel
theorem d_M_carry_145 : decode prog_9_method_14_code 145 = .ok (.aload_n 0, 1) := by decide +kernel
theorem d_M_carry_146 : decode prog_9_method_14_code 146 = .ok (.iload 5, 2) := by decide +kernel
theorem d_M_carry_148 : decode prog_9_method_14_code 148 = .ok (.invokevirtual 153, 3) := by decide +kernel
theorem d_M_carry_151 : decode prog_9_method_14_code 151 = .ok (.istore 7, 2) := by decide +kernel
theorem d_M_carry_153 : decode prog_9_method_14_code 153 = .ok (.aload_n 0, 1) := by decide +kernel
theorem d_M_carry_154 : decode prog_9_method_14_code 154 = .ok (.getfield 101, 3) := by decide +kernel
theorem d_M_carry_157 : decode prog_9_method_14_code 157 = .ok (.iload 6, 2) := by decide +kernel
theorem d_M_carry_159 : decode prog_9_method_14_code 159 = .ok (.bipush 16, 2) := by decide +kernel
theorem d_M_carry_161 : decode prog_9_method_14_code 161 = .ok (.iadd, 1) := by decide +kernel
theorem d_M_carry_162 : decode prog_9_method_14_code 162 = .ok (.iload 7, 2) := by decide +kernel
theorem d_M_carry_164 : decode prog_9_method_14_code 164 = .ok (.sipush 256, 3) := by decide +kernel
theorem d_M_carry_167 : decode prog_9_method_14_code 167 = .ok (.irem, 1) := by decide +kernel
theorem d_M_carry_168 : decode prog_9_method_14_code 168 = .ok (.iastore, 1) := by decide +kernel
theorem d_M_carry_169 : decode prog_9_method_14_code 169 = .ok (.aload_n 0, 1) := by decide +kernel
theorem d_M_carry_170 : decode prog_9_method_14_code 170 = .ok (.getfield 101, 3) := by decide +kernel
theorem d_M_carry_173 : decode prog_9_method_14_code 173 = .ok (.iload 6, 2) := by decide +kernel
theorem d_M_carry_175 : decode prog_9_method_14_code 175 = .ok (.bipush 17, 2) := by decide +kernel
theorem d_M_carry_177 : decode prog_9_method_14_code 177 = .ok (.iadd, 1) := by decide +kernel
theorem d_M_carry_178 : decode prog_9_method_14_code 178 = .ok (.iload 7, 2) := by decide +kernel
theorem d_M_carry_180 : decode prog_9_method_14_code 180 = .ok (.sipush 256, 3) := by decide +kernel
theorem d_M_carry_183 : decode prog_9_method_14_code 183 = .ok (.idiv, 1) := by decide +kernel
theorem d_M_carry_184 : decode prog_9_method_14_code 184 = .ok (.iastore, 1) := by decide +kernel
theorem d_M_carry_185 : decode prog_9_method_14_code 185 = .ok (.aload_n 0, 1) := by decide +kernel
theorem d_M_carry_186 : decode prog_9_method_14_code 186 = .ok (.getfield 138, 3) := by decide +kernel
theorem d_M_carry_189 : decode prog_9_method_14_code 189 = .ok (.ifCond .le 45, 3) := by decide +kernel
theorem d_M_carry_192 : decode prog_9_method_14_code 192 = .ok (.aload_n 0, 1) := by decide +kernel
theorem d_M_carry_193 : decode prog_9_method_14_code 193 = .ok (.getfield 132, 3) := by decide +kernel
theorem d_M_carry_196 : decode prog_9_method_14_code 196 = .ok (.iload 5, 2) := by decide +kernel
theorem d_M_carry_198 : decode prog_9_method_14_code 198 = .ok (.if_icmp .ne 36, 3) := by decide +kernel
theorem d_M_carry_201 : decode prog_9_method_14_code 201 = .ok (.aload_n 0, 1) := by decide +kernel
theorem d_M_carry_202 : decode prog_9_method_14_code 202 = .ok (.getfield 135, 3) := by decide +kernel
theorem d_M_carry_205 : decode prog_9_method_14_code 205 = .ok (.aload_n 0, 1) := by decide +kernel
theorem d_M_carry_206 : decode prog_9_method_14_code 206 = .ok (.getfield 104, 3) := by decide +kernel
theorem d_M_carry_209 : decode prog_9_method_14_code 209 = .ok (.iload 5, 2) := by decide +kernel
theorem d_M_carry_211 : decode prog_9_method_14_code 211 = .ok (.iaload, 1) := by decide +kernel
theorem d_M_carry_212 : decode prog_9_method_14_code 212 = .ok (.if_icmp .ge 22, 3) := by decide +kernel
theorem d_M_carry_215 : decode prog_9_method_14_code 215 = .ok (.aload_n 0, 1) := by decide +kernel
theorem d_M_carry_216 : decode prog_9_method_14_code 216 = .ok (.getfield 101, 3) := by decide +kernel
theorem d_M_carry_219 : decode prog_9_method_14_code 219 = .ok (.iload 6, 2) := by decide +kernel
theorem d_M_carry_221 : decode prog_9_method_14_code 221 = .ok (.aload_n 0, 1) := by decide +kernel
theorem d_M_carry_222 : decode prog_9_method_14_code 222 = .ok (.getfield 135, 3) := by decide +kernel
theorem d_M_carry_225 : decode prog_9_method_14_code 225 = .ok (.iadd, 1) := by decide +kernel
theorem d_M_carry_226 : decode prog_9_method_14_code 226 = .ok (.dup2, 1) := by decide +kernel
theorem d_M_carry_227 : decode prog_9_method_14_code 227 = .ok (.iaload, 1) := by decide +kernel
theorem d_M_carry_228 : decode prog_9_method_14_code 228 = .ok (.aload_n 0, 1) := by decide +kernel
theorem d_M_carry_229 : decode prog_9_method_14_code 229 = .ok (.getfield 138, 3) := by decide +kernel
theorem d_M_carry_232 : decode prog_9_method_14_code 232 = .ok (.ixor, 1) := by decide +kernel
theorem d_M_carry_233 : decode prog_9_method_14_code 233 = .ok (.iastore, 1) := by decide +kernel
theorem d_M_carry_234 : decode prog_9_method_14_code 234 = .ok (.aload_n 0, 1) := by decide +kernel
theorem d_M_carry_235 : decode prog_9_method_14_code 235 = .ok (.getfield 101, 3) := by decide +kernel
theorem d_M_carry_238 : decode prog_9_method_14_code 238 = .ok (.iload 6, 2) := by decide +kernel
theorem d_M_carry_240 : decode prog_9_method_14_code 240 = .ok (.iaload, 1) := by decide +kernel
theorem d_M_carry_241 : decode prog_9_method_14_code 241 = .ok (.bipush 85, 2) := by decide +kernel
theorem d_M_carry_243 : decode prog_9_method_14_code 243 = .ok (.if_icmp .ne 41, 3) := by decide +kernel
theorem d_M_carry_246 : decode prog_9_method_14_code 246 = .ok (.aload_n 0, 1) := by decide +kernel
theorem d_M_carry_247 : decode prog_9_method_14_code 247 = .ok (.getfield 101, 3) := by decide +kernel
theorem d_M_carry_250 : decode prog_9_method_14_code 250 = .ok (.iload 6, 2) := by decide +kernel
theorem d_M_carry_252 : decode prog_9_method_14_code 252 = .ok (.iconst 1, 1) := by decide +kernel
theorem d_M_carry_253 : decode prog_9_method_14_code 253 = .ok (.iadd, 1) := by decide +kernel
theorem d_M_carry_254 : decode prog_9_method_14_code 254 = .ok (.iaload, 1) := by decide +kernel
theorem d_M_carry_255 : decode prog_9_method_14_code 255 = .ok (.sipush 255, 3) := by decide +kernel
theorem d_M_carry_258 : decode prog_9_method_14_code 258 = .ok (.if_icmp .ne 26, 3) := by decide +kernel
theorem d_M_carry_261 : decode prog_9_method_14_code 261 = .ok (.aload_n 0, 1) := by decide +kernel
theorem d_M_carry_262 : decode prog_9_method_14_code 262 = .ok (.getfield 101, 3) := by decide +kernel
theorem d_M_carry_265 : decode prog_9_method_14_code 265 = .ok (.iload 6, 2) := by decide +kernel
theorem d_M_carry_267 : decode prog_9_method_14_code 267 = .ok (.bipush 7, 2) := by decide +kernel
theorem d_M_carry_269 : decode prog_9_method_14_code 269 = .ok (.iadd, 1) := by decide +kernel
theorem d_M_carry_270 : decode prog_9_method_14_code 270 = .ok (.iaload, 1) := by decide +kernel
theorem d_M_carry_271 : decode prog_9_method_14_code 271 = .ok (.aload_n 0, 1) := by decide +kernel
theorem d_M_carry_272 : decode prog_9_method_14_code 272 = .ok (.iload 5, 2) := by decide +kernel
theorem d_M_carry_274 : decode prog_9_method_14_code 274 = .ok (.invokevirtual 150, 3) := by decide +kernel
theorem d_M_carry_277 : decode prog_9_method_14_code 277 = .ok (.if_icmp .ne 7, 3) := by decide +kernel
theorem d_M_carry_280 : decode prog_9_method_14_code 280 = .ok (.iconst 1, 1) := by decide +kernel
theorem d_M_carry_281 : decode prog_9_method_14_code 281 = .ok (.goto 4, 3) := by decide +kernel
theorem d_M_carry_284 : decode prog_9_method_14_code 284 = .ok (.iconst 0, 1) := by decide +kernel
theorem d_M_carry_285 : decode prog_9_method_14_code 285 = .ok (.istore 7, 2) := by decide +kernel
theorem d_M_carry_287 : decode prog_9_method_14_code 287 = .ok (.aload_n 0, 1) := by decide +kernel
theorem d_M_carry_288 : decode prog_9_method_14_code 288 = .ok (.getfield 101, 3) := by decide +kernel
theorem d_M_carry_291 : decode prog_9_method_14_code 291 = .ok (.iload 6, 2) := by decide +kernel
theorem d_M_carry_293 : decode prog_9_method_14_code 293 = .ok (.bipush 6, 2) := by decide +kernel
theorem d_M_carry_295 : decode prog_9_method_14_code 295 = .ok (.iadd, 1) := by decide +kernel
theorem d_M_carry_296 : decode prog_9_method_14_code 296 = .ok (.iaload, 1) := by decide +kernel
theorem d_M_carry_297 : decode prog_9_method_14_code 297 = .ok (.ifCond .eq 52, 3) := by decide +kernel
theorem d_M_carry_300 : decode prog_9_method_14_code 300 = .ok (.aload_n 0, 1) := by decide +kernel
theorem d_M_carry_301 : decode prog_9_method_14_code 301 = .ok (.getfield 101, 3) := by decide +kernel
theorem d_M_carry_304 : decode prog_9_method_14_code 304 = .ok (.iload 6, 2) := by decide +kernel
theorem d_M_carry_306 : decode prog_9_method_14_code 306 = .ok (.bipush 6, 2) := by decide +kernel
theorem d_M_carry_308 : decode prog_9_method_14_code 308 = .ok (.iadd, 1) := by decide +kernel
theorem d_M_carry_309 : decode prog_9_method_14_code 309 = .ok (.iaload, 1) := by decide +kernel
theorem d_M_carry_310 : decode prog_9_method_14_code 310 = .ok (.bipush 8, 2) := by decide +kernel
theorem d_M_carry_312 : decode prog_9_method_14_code 312 = .ok (.if_icmp .ne 41, 3) := by decide +kernel
theorem d_M_carry_315 : decode prog_9_method_14_code 315 = .ok (.aload_n 0, 1) := by decide +kernel
theorem d_M_carry_316 : decode prog_9_method_14_code 316 = .ok (.getfield 101, 3) := by decide +kernel
theorem d_M_carry_319 : decode prog_9_method_14_code 319 = .ok (.iload 6, 2) := by decide +kernel
theorem d_M_carry_321 : decode prog_9_method_14_code 321 = .ok (.bipush 16, 2) := by decide +kernel
theorem d_M_carry_323 : decode prog_9_method_14_code 323 = .ok (.iadd, 1) := by decide +kernel
theorem d_M_carry_324 : decode prog_9_method_14_code 324 = .ok (.iaload, 1) := by decide +kernel
theorem d_M_carry_325 : decode prog_9_method_14_code 325 = .ok (.sipush 256, 3) := by decide +kernel
theorem d_M_carry_328 : decode prog_9_method_14_code 328 = .ok (.aload_n 0, 1) := by decide +kernel
theorem d_M_carry_329 : decode prog_9_method_14_code 329 = .ok (.getfield 101, 3) := by decide +kernel
theorem d_M_carry_332 : decode prog_9_method_14_code 332 = .ok (.iload 6, 2) := by decide +kernel
theorem d_M_carry_334 : decode prog_9_method_14_code 334 = .ok (.bipush 17, 2) := by decide +kernel
theorem d_M_carry_336 : decode prog_9_method_14_code 336 = .ok (.iadd, 1) := by decide +kernel
theorem d_M_carry_337 : decode prog_9_method_14_code 337 = .ok (.iaload, 1) := by decide +kernel
theorem d_M_carry_338 : decode prog_9_method_14_code 338 = .ok (.imul, 1) := by decide +kernel
theorem d_M_carry_339 : decode prog_9_method_14_code 339 = .ok (.iadd, 1) := by decide +kernel
theorem d_M_carry_340 : decode prog_9_method_14_code 340 = .ok (.aload_n 0, 1) := by decide +kernel
theorem d_M_carry_341 : decode prog_9_method_14_code 341 = .ok (.iload 5, 2) := by decide +kernel
theorem d_M_carry_343 : decode prog_9_method_14_code 343 = .ok (.invokevirtual 153, 3) := by decide +kernel
theorem d_M_carry_346 : decode prog_9_method_14_code 346 = .ok (.if_icmp .ne 7, 3) := by decide +kernel
theorem d_M_carry_349 : decode prog_9_method_14_code 349 = .ok (.iconst 1, 1) := by decide +kernel
theorem d_M_carry_350 : decode prog_9_method_14_code 350 = .ok (.goto 4, 3) := by decide +kernel
theorem d_M_carry_353 : decode prog_9_method_14_code 353 = .ok (.iconst 0, 1) := by decide +kernel
theorem d_M_carry_354 : decode prog_9_method_14_code 354 = .ok (.istore 8, 2) := by decide +kernel
theorem d_M_carry_356 : decode prog_9_method_14_code 356 = .ok (.iload 7, 2) := by decide +kernel
theorem d_M_carry_358 : decode prog_9_method_14_code 358 = .ok (.ifCond .eq 44, 3) := by decide +kernel
theorem d_M_carry_361 : decode prog_9_method_14_code 361 = .ok (.iload 8, 2) := by decide +kernel
theorem d_M_carry_363 : decode prog_9_method_14_code 363 = .ok (.ifCond .eq 39, 3) := by decide +kernel
theorem d_M_carry_366 : decode prog_9_method_14_code 366 = .ok (.aload_n 0, 1) := by decide +kernel
theorem d_M_carry_367 : decode prog_9_method_14_code 367 = .ok (.getfield 101, 3) := by decide +kernel
theorem d_M_carry_370 : decode prog_9_method_14_code 370 = .ok (.iload 6, 2) := by decide +kernel
theorem d_M_carry_372 : decode prog_9_method_14_code 372 = .ok (.iconst 3, 1) := by decide +kernel
theorem d_M_carry_373 : decode prog_9_method_14_code 373 = .ok (.iadd, 1) := by decide +kernel
theorem d_M_carry_374 : decode prog_9_method_14_code 374 = .ok (.iaload, 1) := by decide +kernel
theorem d_M_carry_375 : decode prog_9_method_14_code 375 = .ok (.invokestatic 111, 3) := by decide +kernel
theorem d_M_carry_378 : decode prog_9_method_14_code 378 = .ok (.ifCond .eq 24, 3) := by decide +kernel
theorem d_M_carry_381 : decode prog_9_method_14_code 381 = .ok (.aload_n 0, 1) := by decide +kernel
theorem d_M_carry_382 : decode prog_9_method_14_code 382 = .ok (.getfield 7, 3) := by decide +kernel
theorem d_M_carry_385 : decode prog_9_method_14_code 385 = .ok (.aload_n 0, 1) := by decide +kernel
theorem d_M_carry_386 : decode prog_9_method_14_code 386 = .ok (.getfield 101, 3) := by decide +kernel
theorem d_M_carry_389 : decode prog_9_method_14_code 389 = .ok (.iload 6, 2) := by decide +kernel
theorem d_M_carry_391 : decode prog_9_method_14_code 391 = .ok (.iconst 3, 1) := by decide +kernel
theorem d_M_carry_392 : decode prog_9_method_14_code 392 = .ok (.iadd, 1) := by decide +kernel
theorem d_M_carry_393 : decode prog_9_method_14_code 393 = .ok (.iaload, 1) := by decide +kernel
theorem d_M_carry_394 : decode prog_9_method_14_code 394 = .ok (.baload, 1) := by decide +kernel
theorem d_M_carry_395 : decode prog_9_method_14_code 395 = .ok (.ifCond .eq 7, 3) := by decide +kernel
theorem d_M_carry_398 : decode prog_9_method_14_code 398 = .ok (.iconst 1, 1) := by decide +kernel
theorem d_M_carry_399 : decode prog_9_method_14_code 399 = .ok (.goto 4, 3) := by decide +kernel
theorem d_M_carry_402 : decode prog_9_method_14_code 402 = .ok (.iconst 0, 1) := by decide +kernel
theorem d_M_carry_403 : decode prog_9_method_14_code 403 = .ok (.ireturn, 1) := by decide +kernel
theorem d_M_lay_0 : decode prog_9_method_15_code 0 = .ok (.bipush 18, 2) := by decide +kernel
theorem d_M_lay_2 : decode prog_9_method_15_code 2 = .ok (.aload_n 0, 1) := by decide +kernel
theorem d_M_lay_3 : decode prog_9_method_15_code 3 = .ok (.getfield 147, 3) := by decide +kernel
theorem d_M_lay_6 : decode prog_9_method_15_code 6 = .ok (.imul, 1) := by decide +kernel
theorem d_M_lay_7 : decode prog_9_method_15_code 7 = .ok (.bipush 8, 2) := by decide +kernel
theorem d_M_lay_9 : decode prog_9_method_15_code 9 = .ok (.iadd, 1) := by decide +kernel
theorem d_M_lay_10 : decode prog_9_method_15_code 10 = .ok (.istore 6, 2) := by decide +kernel
theorem d_M_lay_12 : decode prog_9_method_15_code 12 = .ok (.aload_n 0, 1) := by decide +kernel
theorem d_M_lay_13 : decode prog_9_method_15_code 13 = .ok (.getfield 101, 3) := by decide +kernel
theorem d_M_lay_16 : decode prog_9_method_15_code 16 = .ok (.iload 6, 2) := by decide +kernel
theorem d_M_lay_18 : decode prog_9_method_15_code 18 = .ok (.iload_n 1, 1) := by decide +kernel
theorem d_M_lay_19 : decode prog_9_method_15_code 19 = .ok (.iastore, 1) := by decide +kernel
theorem d_M_lay_20 : decode prog_9_method_15_code 20 = .ok (.aload_n 0, 1) := by decide +kernel
theorem d_M_lay_21 : decode prog_9_method_15_code 21 = .ok (.getfield 101, 3) := by decide +kernel
theorem d_M_lay_24 : decode prog_9_method_15_code 24 = .ok (.iload 6, 2) := by decide +kernel
theorem d_M_lay_26 : decode prog_9_method_15_code 26 = .ok (.iconst 1, 1) := by decide +kernel
theorem d_M_lay_27 : decode prog_9_method_15_code 27 = .ok (.iadd, 1) := by decide +kernel
theorem d_M_lay_28 : decode prog_9_method_15_code 28 = .ok (.iload_n 2, 1) := by decide +kernel
theorem d_M_lay_29 : decode prog_9_method_15_code 29 = .ok (.iastore, 1) := by decide +kernel
theorem d_M_lay_30 : decode prog_9_method_15_code 30 = .ok (.aload_n 0, 1) := by decide +kernel
theorem d_M_lay_31 : decode prog_9_method_15_code 31 = .ok (.getfield 101, 3) := by decide +kernel
theorem d_M_lay_34 : decode prog_9_method_15_code 34 = .ok (.iload 6, 2) := by decide +kernel
theorem d_M_lay_36 : decode prog_9_method_15_code 36 = .ok (.iconst 2, 1) := by decide +kernel
theorem d_M_lay_37 : decode prog_9_method_15_code 37 = .ok (.iadd, 1) := by decide +kernel
theorem d_M_lay_38 : decode prog_9_method_15_code 38 = .ok (.iload_n 3, 1) := by decide +kernel
theorem d_M_lay_39 : decode prog_9_method_15_code 39 = .ok (.iastore, 1) := by decide +kernel
theorem d_M_lay_40 : decode prog_9_method_15_code 40 = .ok (.aload_n 0, 1) := by decide +kernel
theorem d_M_lay_41 : decode prog_9_method_15_code 41 = .ok (.getfield 101, 3) := by decide +kernel
theorem d_M_lay_44 : decode prog_9_method_15_code 44 = .ok (.iload 6, 2) := by decide +kernel
theorem d_M_lay_46 : decode prog_9_method_15_code 46 = .ok (.iconst 3, 1) := by decide +kernel
theorem d_M_lay_47 : decode prog_9_method_15_code 47 = .ok (.iadd, 1) := by decide +kernel
theorem d_M_lay_48 : decode prog_9_method_15_code 48 = .ok (.iload 4, 2) := by decide +kernel
theorem d_M_lay_50 : decode prog_9_method_15_code 50 = .ok (.iastore, 1) := by decide +kernel
theorem d_M_lay_51 : decode prog_9_method_15_code 51 = .ok (.iconst 0, 1) := by decide +kernel
theorem d_M_lay_52 : decode prog_9_method_15_code 52 = .ok (.istore 7, 2) := by decide +kernel
theorem d_M_lay_54 : decode prog_9_method_15_code 54 = .ok (.iload 7, 2) := by decide +kernel
theorem d_M_lay_56 : decode prog_9_method_15_code 56 = .ok (.iconst 4, 1) := by decide +kernel
theorem d_M_lay_57 : decode prog_9_method_15_code 57 = .ok (.if_icmp .ge 36, 3) := by decide +kernel
theorem d_M_lay_60 : decode prog_9_method_15_code 60 = .ok (.aload_n 0, 1) := by decide +kernel
theorem d_M_lay_61 : decode prog_9_method_15_code 61 = .ok (.getfield 101, 3) := by decide +kernel
theorem d_M_lay_64 : decode prog_9_method_15_code 64 = .ok (.iload 6, 2) := by decide +kernel
theorem d_M_lay_66 : decode prog_9_method_15_code 66 = .ok (.iconst 4, 1) := by decide +kernel
theorem d_M_lay_67 : decode prog_9_method_15_code 67 = .ok (.iadd, 1) := by decide +kernel
theorem d_M_lay_68 : decode prog_9_method_15_code 68 = .ok (.iload 7, 2) := by decide +kernel
theorem d_M_lay_70 : decode prog_9_method_15_code 70 = .ok (.iadd, 1) := by decide +kernel
theorem d_M_lay_71 : decode prog_9_method_15_code 71 = .ok (.iload 5, 2) := by decide +kernel
theorem d_M_lay_73 : decode prog_9_method_15_code 73 = .ok (.bipush 24, 2) := by decide +kernel
theorem d_M_lay_75 : decode prog_9_method_15_code 75 = .ok (.bipush 8, 2) := by decide +kernel
theorem d_M_lay_77 : decode prog_9_method_15_code 77 = .ok (.iload 7, 2) := by decide +kernel
theorem d_M_lay_79 : decode prog_9_method_15_code 79 = .ok (.imul, 1) := by decide +kernel
theorem d_M_lay_80 : decode prog_9_method_15_code 80 = .ok (.isub, 1) := by decide +kernel
theorem d_M_lay_81 : decode prog_9_method_15_code 81 = .ok (.ishr, 1) := by decide +kernel
theorem d_M_lay_82 : decode prog_9_method_15_code 82 = .ok (.sipush 255, 3) := by decide +kernel
theorem d_M_lay_85 : decode prog_9_method_15_code 85 = .ok (.iand, 1) := by decide +kernel
theorem d_M_lay_86 : decode prog_9_method_15_code 86 = .ok (.iastore, 1) := by decide +kernel
theorem d_M_lay_87 : decode prog_9_method_15_code 87 = .ok (.iinc 7 1, 3) := by decide +kernel
theorem d_M_lay_90 : decode prog_9_method_15_code 90 = .ok (.goto (-36), 3) := by decide +kernel
theorem d_M_lay_93 : decode prog_9_method_15_code 93 = .ok (.return_, 1) := by decide +kernel
theorem d_M_outputOf_0 : decode prog_9_method_16_code 0 = .ok (.iconst 1, 1) := by decide +kernel
theorem d_M_outputOf_1 : decode prog_9_method_16_code 1 = .ok (.istore_n 2, 1) := by decide +kernel
theorem d_M_outputOf_2 : decode prog_9_method_16_code 2 = .ok (.iload_n 2, 1) := by decide +kernel
theorem d_M_outputOf_3 : decode prog_9_method_16_code 3 = .ok (.bipush 16, 2) := by decide +kernel
theorem d_M_outputOf_5 : decode prog_9_method_16_code 5 = .ok (.if_icmp .gt 35, 3) := by decide +kernel
theorem d_M_outputOf_8 : decode prog_9_method_16_code 8 = .ok (.aload_n 0, 1) := by decide +kernel
theorem d_M_outputOf_9 : decode prog_9_method_16_code 9 = .ok (.getfield 44, 3) := by decide +kernel
theorem d_M_outputOf_12 : decode prog_9_method_16_code 12 = .ok (.bipush 17, 2) := by decide +kernel
theorem d_M_outputOf_14 : decode prog_9_method_16_code 14 = .ok (.iload_n 1, 1) := by decide +kernel
theorem d_M_outputOf_15 : decode prog_9_method_16_code 15 = .ok (.imul, 1) := by decide +kernel
theorem d_M_outputOf_16 : decode prog_9_method_16_code 16 = .ok (.iload_n 2, 1) := by decide +kernel
theorem d_M_outputOf_17 : decode prog_9_method_16_code 17 = .ok (.iadd, 1) := by decide +kernel
theorem d_M_outputOf_18 : decode prog_9_method_16_code 18 = .ok (.baload, 1) := by decide +kernel
theorem d_M_outputOf_19 : decode prog_9_method_16_code 19 = .ok (.ifCond .eq 15, 3) := by decide +kernel
theorem d_M_outputOf_22 : decode prog_9_method_16_code 22 = .ok (.aload_n 0, 1) := by decide +kernel
theorem d_M_outputOf_23 : decode prog_9_method_16_code 23 = .ok (.getfield 41, 3) := by decide +kernel
theorem d_M_outputOf_26 : decode prog_9_method_16_code 26 = .ok (.bipush 17, 2) := by decide +kernel
theorem d_M_outputOf_28 : decode prog_9_method_16_code 28 = .ok (.iload_n 1, 1) := by decide +kernel
theorem d_M_outputOf_29 : decode prog_9_method_16_code 29 = .ok (.imul, 1) := by decide +kernel
theorem d_M_outputOf_30 : decode prog_9_method_16_code 30 = .ok (.iload_n 2, 1) := by decide +kernel
theorem d_M_outputOf_31 : decode prog_9_method_16_code 31 = .ok (.iadd, 1) := by decide +kernel
theorem d_M_outputOf_32 : decode prog_9_method_16_code 32 = .ok (.iaload, 1) := by decide +kernel
theorem d_M_outputOf_33 : decode prog_9_method_16_code 33 = .ok (.ireturn, 1) := by decide +kernel
theorem d_M_outputOf_34 : decode prog_9_method_16_code 34 = .ok (.iinc 2 1, 3) := by decide +kernel
theorem d_M_outputOf_37 : decode prog_9_method_16_code 37 = .ok (.goto (-35), 3) := by decide +kernel
theorem d_M_outputOf_40 : decode prog_9_method_16_code 40 = .ok (.iconst 0, 1) := by decide +kernel
theorem d_M_outputOf_41 : decode prog_9_method_16_code 41 = .ok (.ireturn, 1) := by decide +kernel
theorem d_M_value_0 : decode prog_9_method_17_code 0 = .ok (.iload_n 1, 1) := by decide +kernel
theorem d_M_value_1 : decode prog_9_method_17_code 1 = .ok (.invokestatic 111, 3) := by decide +kernel
theorem d_M_value_4 : decode prog_9_method_17_code 4 = .ok (.ifCond .ne 7, 3) := by decide +kernel
theorem d_M_value_7 : decode prog_9_method_17_code 7 = .ok (.iconst 0, 1) := by decide +kernel
theorem d_M_value_8 : decode prog_9_method_17_code 8 = .ok (.goto 44, 3) := by decide +kernel
theorem d_M_value_11 : decode prog_9_method_17_code 11 = .ok (.iload_n 2, 1) := by decide +kernel
theorem d_M_value_12 : decode prog_9_method_17_code 12 = .ok (.ifCond .ne 12, 3) := by decide +kernel
theorem d_M_value_15 : decode prog_9_method_17_code 15 = .ok (.aload_n 0, 1) := by decide +kernel
theorem d_M_value_16 : decode prog_9_method_17_code 16 = .ok (.getfield 26, 3) := by decide +kernel
theorem d_M_value_19 : decode prog_9_method_17_code 19 = .ok (.iload_n 1, 1) := by decide +kernel
theorem d_M_value_20 : decode prog_9_method_17_code 20 = .ok (.iaload, 1) := by decide +kernel
theorem d_M_value_21 : decode prog_9_method_17_code 21 = .ok (.goto 31, 3) := by decide +kernel
theorem d_M_value_24 : decode prog_9_method_17_code 24 = .ok (.iload_n 2, 1) := by decide +kernel
theorem d_M_value_25 : decode prog_9_method_17_code 25 = .ok (.iconst 1, 1) := by decide +kernel
theorem d_M_value_26 : decode prog_9_method_17_code 26 = .ok (.if_icmp .ne 11, 3) := by decide +kernel
theorem d_M_value_29 : decode prog_9_method_17_code 29 = .ok (.aload_n 0, 1) := by decide +kernel
theorem d_M_value_30 : decode prog_9_method_17_code 30 = .ok (.iload_n 1, 1) := by decide +kernel
theorem d_M_value_31 : decode prog_9_method_17_code 31 = .ok (.invokevirtual 156, 3) := by decide +kernel
theorem d_M_value_34 : decode prog_9_method_17_code 34 = .ok (.goto 18, 3) := by decide +kernel
theorem d_M_value_37 : decode prog_9_method_17_code 37 = .ok (.iload_n 2, 1) := by decide +kernel
theorem d_M_value_38 : decode prog_9_method_17_code 38 = .ok (.iconst 2, 1) := by decide +kernel
theorem d_M_value_39 : decode prog_9_method_17_code 39 = .ok (.if_icmp .ne 12, 3) := by decide +kernel
theorem d_M_value_42 : decode prog_9_method_17_code 42 = .ok (.aload_n 0, 1) := by decide +kernel
theorem d_M_value_43 : decode prog_9_method_17_code 43 = .ok (.getfield 29, 3) := by decide +kernel
theorem d_M_value_46 : decode prog_9_method_17_code 46 = .ok (.iload_n 1, 1) := by decide +kernel
theorem d_M_value_47 : decode prog_9_method_17_code 47 = .ok (.iaload, 1) := by decide +kernel
theorem d_M_value_48 : decode prog_9_method_17_code 48 = .ok (.goto 4, 3) := by decide +kernel
theorem d_M_value_51 : decode prog_9_method_17_code 51 = .ok (.iconst 0, 1) := by decide +kernel
theorem d_M_value_52 : decode prog_9_method_17_code 52 = .ok (.ireturn, 1) := by decide +kernel
theorem d_M_subscriptionsOf_0 : decode prog_9_method_18_code 0 = .ok (.iconst 0, 1) := by decide +kernel
theorem d_M_subscriptionsOf_1 : decode prog_9_method_18_code 1 = .ok (.istore_n 2, 1) := by decide +kernel
theorem d_M_subscriptionsOf_2 : decode prog_9_method_18_code 2 = .ok (.iconst 0, 1) := by decide +kernel
theorem d_M_subscriptionsOf_3 : decode prog_9_method_18_code 3 = .ok (.istore_n 3, 1) := by decide +kernel
theorem d_M_subscriptionsOf_4 : decode prog_9_method_18_code 4 = .ok (.iload_n 3, 1) := by decide +kernel
theorem d_M_subscriptionsOf_5 : decode prog_9_method_18_code 5 = .ok (.aload_n 0, 1) := by decide +kernel
theorem d_M_subscriptionsOf_6 : decode prog_9_method_18_code 6 = .ok (.getfield 115, 3) := by decide +kernel
theorem d_M_subscriptionsOf_9 : decode prog_9_method_18_code 9 = .ok (.if_icmp .ge 27, 3) := by decide +kernel
theorem d_M_subscriptionsOf_12 : decode prog_9_method_18_code 12 = .ok (.aload_n 0, 1) := by decide +kernel
theorem d_M_subscriptionsOf_13 : decode prog_9_method_18_code 13 = .ok (.getfield 74, 3) := by decide +kernel
theorem d_M_subscriptionsOf_16 : decode prog_9_method_18_code 16 = .ok (.iload_n 3, 1) := by decide +kernel
theorem d_M_subscriptionsOf_17 : decode prog_9_method_18_code 17 = .ok (.iaload, 1) := by decide +kernel
theorem d_M_subscriptionsOf_18 : decode prog_9_method_18_code 18 = .ok (.iload_n 1, 1) := by decide +kernel
theorem d_M_subscriptionsOf_19 : decode prog_9_method_18_code 19 = .ok (.if_icmp .ne 9, 3) := by decide +kernel
theorem d_M_subscriptionsOf_22 : decode prog_9_method_18_code 22 = .ok (.iload_n 2, 1) := by decide +kernel
theorem d_M_subscriptionsOf_23 : decode prog_9_method_18_code 23 = .ok (.iconst 1, 1) := by decide +kernel
theorem d_M_subscriptionsOf_24 : decode prog_9_method_18_code 24 = .ok (.iadd, 1) := by decide +kernel
theorem d_M_subscriptionsOf_25 : decode prog_9_method_18_code 25 = .ok (.goto 4, 3) := by decide +kernel
theorem d_M_subscriptionsOf_28 : decode prog_9_method_18_code 28 = .ok (.iload_n 2, 1) := by decide +kernel
theorem d_M_subscriptionsOf_29 : decode prog_9_method_18_code 29 = .ok (.istore_n 2, 1) := by decide +kernel
theorem d_M_subscriptionsOf_30 : decode prog_9_method_18_code 30 = .ok (.iinc 3 1, 3) := by decide +kernel
theorem d_M_subscriptionsOf_33 : decode prog_9_method_18_code 33 = .ok (.goto (-29), 3) := by decide +kernel
theorem d_M_subscriptionsOf_36 : decode prog_9_method_18_code 36 = .ok (.iload_n 2, 1) := by decide +kernel
theorem d_M_subscriptionsOf_37 : decode prog_9_method_18_code 37 = .ok (.ireturn, 1) := by decide +kernel
theorem d_M_subscribe_0 : decode prog_9_method_19_code 0 = .ok (.iconst 0, 1) := by decide +kernel
theorem d_M_subscribe_1 : decode prog_9_method_19_code 1 = .ok (.istore 4, 2) := by decide +kernel
theorem d_M_subscribe_3 : decode prog_9_method_19_code 3 = .ok (.iload 4, 2) := by decide +kernel
theorem d_M_subscribe_5 : decode prog_9_method_19_code 5 = .ok (.aload_n 0, 1) := by decide +kernel
theorem d_M_subscribe_6 : decode prog_9_method_19_code 6 = .ok (.getfield 115, 3) := by decide +kernel
theorem d_M_subscribe_9 : decode prog_9_method_19_code 9 = .ok (.if_icmp .ge 42, 3) := by decide +kernel
theorem d_M_subscribe_12 : decode prog_9_method_19_code 12 = .ok (.aload_n 0, 1) := by decide +kernel
theorem d_M_subscribe_13 : decode prog_9_method_19_code 13 = .ok (.getfield 74, 3) := by decide +kernel
theorem d_M_subscribe_16 : decode prog_9_method_19_code 16 = .ok (.iload 4, 2) := by decide +kernel
theorem d_M_subscribe_18 : decode prog_9_method_19_code 18 = .ok (.iaload, 1) := by decide +kernel
theorem d_M_subscribe_19 : decode prog_9_method_19_code 19 = .ok (.iload_n 1, 1) := by decide +kernel
theorem d_M_subscribe_20 : decode prog_9_method_19_code 20 = .ok (.if_icmp .ne 25, 3) := by decide +kernel
theorem d_M_subscribe_23 : decode prog_9_method_19_code 23 = .ok (.aload_n 0, 1) := by decide +kernel
theorem d_M_subscribe_24 : decode prog_9_method_19_code 24 = .ok (.getfield 77, 3) := by decide +kernel
theorem d_M_subscribe_27 : decode prog_9_method_19_code 27 = .ok (.iload 4, 2) := by decide +kernel
theorem d_M_subscribe_29 : decode prog_9_method_19_code 29 = .ok (.iaload, 1) := by decide +kernel
theorem d_M_subscribe_30 : decode prog_9_method_19_code 30 = .ok (.iload_n 2, 1) := by decide +kernel
theorem d_M_subscribe_31 : decode prog_9_method_19_code 31 = .ok (.if_icmp .ne 14, 3) := by decide +kernel
theorem d_M_subscribe_34 : decode prog_9_method_19_code 34 = .ok (.aload_n 0, 1) := by decide +kernel
theorem d_M_subscribe_35 : decode prog_9_method_19_code 35 = .ok (.getfield 80, 3) := by decide +kernel
theorem d_M_subscribe_38 : decode prog_9_method_19_code 38 = .ok (.iload 4, 2) := by decide +kernel
theorem d_M_subscribe_40 : decode prog_9_method_19_code 40 = .ok (.iaload, 1) := by decide +kernel
theorem d_M_subscribe_41 : decode prog_9_method_19_code 41 = .ok (.iload_n 3, 1) := by decide +kernel
theorem d_M_subscribe_42 : decode prog_9_method_19_code 42 = .ok (.if_icmp .eq 9, 3) := by decide +kernel
theorem d_M_subscribe_45 : decode prog_9_method_19_code 45 = .ok (.iinc 4 1, 3) := by decide +kernel
theorem d_M_subscribe_48 : decode prog_9_method_19_code 48 = .ok (.goto (-45), 3) := by decide +kernel
theorem d_M_subscribe_51 : decode prog_9_method_19_code 51 = .ok (.iload 4, 2) := by decide +kernel
theorem d_M_subscribe_53 : decode prog_9_method_19_code 53 = .ok (.aload_n 0, 1) := by decide +kernel
theorem d_M_subscribe_54 : decode prog_9_method_19_code 54 = .ok (.getfield 115, 3) := by decide +kernel
theorem d_M_subscribe_57 : decode prog_9_method_19_code 57 = .ok (.if_icmp .ne 48, 3) := by decide +kernel
theorem d_M_subscribe_60 : decode prog_9_method_19_code 60 = .ok (.aload_n 0, 1) := by decide +kernel
theorem d_M_subscribe_61 : decode prog_9_method_19_code 61 = .ok (.iload_n 1, 1) := by decide +kernel
theorem d_M_subscribe_62 : decode prog_9_method_19_code 62 = .ok (.invokevirtual 159, 3) := by decide +kernel
theorem d_M_subscribe_65 : decode prog_9_method_19_code 65 = .ok (.iconst 3, 1) := by decide +kernel
theorem d_M_subscribe_66 : decode prog_9_method_19_code 66 = .ok (.if_icmp .ne 5, 3) := by decide +kernel
theorem d_M_subscribe_69 : decode prog_9_method_19_code 69 = .ok (.iconst 1, 1) := by decide +kernel
theorem d_M_subscribe_70 : decode prog_9_method_19_code 70 = .ok (.ireturn, 1) := by decide +kernel
theorem d_M_subscribe_71 : decode prog_9_method_19_code 71 = .ok (.aload_n 0, 1) := by decide +kernel
theorem d_M_subscribe_72 : decode prog_9_method_19_code 72 = .ok (.getfield 74, 3) := by decide +kernel
theorem d_M_subscribe_75 : decode prog_9_method_19_code 75 = .ok (.iload 4, 2) := by decide +kernel
theorem d_M_subscribe_77 : decode prog_9_method_19_code 77 = .ok (.iload_n 1, 1) := by decide +kernel
theorem d_M_subscribe_78 : decode prog_9_method_19_code 78 = .ok (.iastore, 1) := by decide +kernel
theorem d_M_subscribe_79 : decode prog_9_method_19_code 79 = .ok (.aload_n 0, 1) := by decide +kernel
theorem d_M_subscribe_80 : decode prog_9_method_19_code 80 = .ok (.getfield 77, 3) := by decide +kernel
theorem d_M_subscribe_83 : decode prog_9_method_19_code 83 = .ok (.iload 4, 2) := by decide +kernel
theorem d_M_subscribe_85 : decode prog_9_method_19_code 85 = .ok (.iload_n 2, 1) := by decide +kernel
theorem d_M_subscribe_86 : decode prog_9_method_19_code 86 = .ok (.iastore, 1) := by decide +kernel
theorem d_M_subscribe_87 : decode prog_9_method_19_code 87 = .ok (.aload_n 0, 1) := by decide +kernel
theorem d_M_subscribe_88 : decode prog_9_method_19_code 88 = .ok (.getfield 80, 3) := by decide +kernel
theorem d_M_subscribe_91 : decode prog_9_method_19_code 91 = .ok (.iload 4, 2) := by decide +kernel
theorem d_M_subscribe_93 : decode prog_9_method_19_code 93 = .ok (.iload_n 3, 1) := by decide +kernel
theorem d_M_subscribe_94 : decode prog_9_method_19_code 94 = .ok (.iastore, 1) := by decide +kernel
theorem d_M_subscribe_95 : decode prog_9_method_19_code 95 = .ok (.aload_n 0, 1) := by decide +kernel
theorem d_M_subscribe_96 : decode prog_9_method_19_code 96 = .ok (.dup, 1) := by decide +kernel
theorem d_M_subscribe_97 : decode prog_9_method_19_code 97 = .ok (.getfield 115, 3) := by decide +kernel
theorem d_M_subscribe_100 : decode prog_9_method_19_code 100 = .ok (.iconst 1, 1) := by decide +kernel
theorem d_M_subscribe_101 : decode prog_9_method_19_code 101 = .ok (.iadd, 1) := by decide +kernel
theorem d_M_subscribe_102 : decode prog_9_method_19_code 102 = .ok (.putfield 115, 3) := by decide +kernel
theorem d_M_subscribe_105 : decode prog_9_method_19_code 105 = .ok (.aload_n 0, 1) := by decide +kernel
theorem d_M_subscribe_106 : decode prog_9_method_19_code 106 = .ok (.getfield 83, 3) := by decide +kernel
theorem d_M_subscribe_109 : decode prog_9_method_19_code 109 = .ok (.iload 4, 2) := by decide +kernel
theorem d_M_subscribe_111 : decode prog_9_method_19_code 111 = .ok (.aload_n 0, 1) := by decide +kernel
theorem d_M_subscribe_112 : decode prog_9_method_19_code 112 = .ok (.iload_n 1, 1) := by decide +kernel
theorem d_M_subscribe_113 : decode prog_9_method_19_code 113 = .ok (.iload_n 3, 1) := by decide +kernel
theorem d_M_subscribe_114 : decode prog_9_method_19_code 114 = .ok (.invokevirtual 162, 3) := by decide +kernel
theorem d_M_subscribe_117 : decode prog_9_method_19_code 117 = .ok (.iastore, 1) := by decide +kernel
theorem d_M_subscribe_118 : decode prog_9_method_19_code 118 = .ok (.aload_n 0, 1) := by decide +kernel
theorem d_M_subscribe_119 : decode prog_9_method_19_code 119 = .ok (.getfield 86, 3) := by decide +kernel
theorem d_M_subscribe_122 : decode prog_9_method_19_code 122 = .ok (.iload 4, 2) := by decide +kernel
theorem d_M_subscribe_124 : decode prog_9_method_19_code 124 = .ok (.iconst 0, 1) := by decide +kernel
theorem d_M_subscribe_125 : decode prog_9_method_19_code 125 = .ok (.bastore, 1) := by decide +kernel
theorem d_M_subscribe_126 : decode prog_9_method_19_code 126 = .ok (.iconst 0, 1) := by decide +kernel
theorem d_M_subscribe_127 : decode prog_9_method_19_code 127 = .ok (.ireturn, 1) := by decide +kernel
theorem d_M_work_0 : decode prog_9_method_20_code 0 = .ok (.aload_n 0, 1) := by decide +kernel
theorem d_M_work_1 : decode prog_9_method_20_code 1 = .ok (.getfield 50, 3) := by decide +kernel
theorem d_M_work_4 : decode prog_9_method_20_code 4 = .ok (.iload_n 1, 1) := by decide +kernel
theorem d_M_work_5 : decode prog_9_method_20_code 5 = .ok (.iaload, 1) := by decide +kernel
theorem d_M_work_6 : decode prog_9_method_20_code 6 = .ok (.istore_n 2, 1) := by decide +kernel
theorem d_M_work_7 : decode prog_9_method_20_code 7 = .ok (.aload_n 0, 1) := by decide +kernel
theorem d_M_work_8 : decode prog_9_method_20_code 8 = .ok (.getfield 53, 3) := by decide +kernel
theorem d_M_work_11 : decode prog_9_method_20_code 11 = .ok (.iload_n 1, 1) := by decide +kernel
theorem d_M_work_12 : decode prog_9_method_20_code 12 = .ok (.iaload, 1) := by decide +kernel
theorem d_M_work_13 : decode prog_9_method_20_code 13 = .ok (.bipush 8, 2) := by decide +kernel
theorem d_M_work_15 : decode prog_9_method_20_code 15 = .ok (.irem, 1) := by decide +kernel
theorem d_M_work_16 : decode prog_9_method_20_code 16 = .ok (.istore_n 3, 1) := by decide +kernel
theorem d_M_work_17 : decode prog_9_method_20_code 17 = .ok (.aload_n 0, 1) := by decide +kernel
theorem d_M_work_18 : decode prog_9_method_20_code 18 = .ok (.getfield 53, 3) := by decide +kernel
theorem d_M_work_21 : decode prog_9_method_20_code 21 = .ok (.iload_n 1, 1) := by decide +kernel
theorem d_M_work_22 : decode prog_9_method_20_code 22 = .ok (.iaload, 1) := by decide +kernel
theorem d_M_work_23 : decode prog_9_method_20_code 23 = .ok (.bipush 8, 2) := by decide +kernel
theorem d_M_work_25 : decode prog_9_method_20_code 25 = .ok (.idiv, 1) := by decide +kernel
theorem d_M_work_26 : decode prog_9_method_20_code 26 = .ok (.bipush 8, 2) := by decide +kernel
theorem d_M_work_28 : decode prog_9_method_20_code 28 = .ok (.irem, 1) := by decide +kernel
theorem d_M_work_29 : decode prog_9_method_20_code 29 = .ok (.istore 4, 2) := by decide +kernel
theorem d_M_work_31 : decode prog_9_method_20_code 31 = .ok (.aload_n 0, 1) := by decide +kernel
theorem d_M_work_32 : decode prog_9_method_20_code 32 = .ok (.getfield 53, 3) := by decide +kernel
theorem d_M_work_35 : decode prog_9_method_20_code 35 = .ok (.iload_n 1, 1) := by decide +kernel
theorem d_M_work_36 : decode prog_9_method_20_code 36 = .ok (.iaload, 1) := by decide +kernel
theorem d_M_work_37 : decode prog_9_method_20_code 37 = .ok (.bipush 64, 2) := by decide +kernel
theorem d_M_work_39 : decode prog_9_method_20_code 39 = .ok (.idiv, 1) := by decide +kernel
theorem d_M_work_40 : decode prog_9_method_20_code 40 = .ok (.istore 5, 2) := by decide +kernel
theorem d_M_work_42 : decode prog_9_method_20_code 42 = .ok (.iload 4, 2) := by decide +kernel
theorem d_M_work_44 : decode prog_9_method_20_code 44 = .ok (.iconst 1, 1) := by decide +kernel
theorem d_M_work_45 : decode prog_9_method_20_code 45 = .ok (.if_icmp .ne 20, 3) := by decide +kernel
theorem d_M_work_48 : decode prog_9_method_20_code 48 = .ok (.iload 5, 2) := by decide +kernel
theorem d_M_work_50 : decode prog_9_method_20_code 50 = .ok (.iconst 1, 1) := by decide +kernel
theorem d_M_work_51 : decode prog_9_method_20_code 51 = .ok (.if_icmp .lt 14, 3) := by decide +kernel
theorem d_M_work_54 : decode prog_9_method_20_code 54 = .ok (.iload 5, 2) := by decide +kernel
theorem d_M_work_56 : decode prog_9_method_20_code 56 = .ok (.bipush 16, 2) := by decide +kernel
theorem d_M_work_58 : decode prog_9_method_20_code 58 = .ok (.if_icmp .gt 7, 3) := by decide +kernel
theorem d_M_work_61 : decode prog_9_method_20_code 61 = .ok (.iconst 1, 1) := by decide +kernel
theorem d_M_work_62 : decode prog_9_method_20_code 62 = .ok (.goto 4, 3) := by decide +kernel
theorem d_M_work_65 : decode prog_9_method_20_code 65 = .ok (.iconst 0, 1) := by decide +kernel
theorem d_M_work_66 : decode prog_9_method_20_code 66 = .ok (.istore 6, 2) := by decide +kernel
theorem d_M_work_68 : decode prog_9_method_20_code 68 = .ok (.iconst 1, 1) := by decide +kernel
theorem d_M_work_69 : decode prog_9_method_20_code 69 = .ok (.istore 7, 2) := by decide +kernel
theorem d_M_work_71 : decode prog_9_method_20_code 71 = .ok (.aload_n 0, 1) := by decide +kernel
theorem d_M_work_72 : decode prog_9_method_20_code 72 = .ok (.getfield 56, 3) := by decide +kernel
theorem d_M_work_75 : decode prog_9_method_20_code 75 = .ok (.iload_n 1, 1) := by decide +kernel
theorem d_M_work_76 : decode prog_9_method_20_code 76 = .ok (.iaload, 1) := by decide +kernel
theorem d_M_work_77 : decode prog_9_method_20_code 77 = .ok (.istore 8, 2) := by decide +kernel
theorem d_M_work_79 : decode prog_9_method_20_code 79 = .ok (.iload_n 3, 1) := by decide +kernel
theorem d_M_work_80 : decode prog_9_method_20_code 80 = .ok (.iconst 1, 1) := by decide +kernel
theorem d_M_work_81 : decode prog_9_method_20_code 81 = .ok (.if_icmp .ne 28, 3) := by decide +kernel
theorem d_M_work_84 : decode prog_9_method_20_code 84 = .ok (.iload 4, 2) := by decide +kernel
theorem d_M_work_86 : decode prog_9_method_20_code 86 = .ok (.iconst 2, 1) := by decide +kernel
theorem d_M_work_87 : decode prog_9_method_20_code 87 = .ok (.if_icmp .le 7, 3) := by decide +kernel
theorem d_M_work_90 : decode prog_9_method_20_code 90 = .ok (.iconst 1, 1) := by decide +kernel
theorem d_M_work_91 : decode prog_9_method_20_code 91 = .ok (.goto 4, 3) := by decide +kernel
theorem d_M_work_94 : decode prog_9_method_20_code 94 = .ok (.iconst 0, 1) := by decide +kernel
theorem d_M_work_95 : decode prog_9_method_20_code 95 = .ok (.istore 7, 2) := by decide +kernel
theorem d_M_work_97 : decode prog_9_method_20_code 97 = .ok (.aload_n 0, 1) := by decide +kernel
theorem d_M_work_98 : decode prog_9_method_20_code 98 = .ok (.iload_n 2, 1) := by decide +kernel
theorem d_M_work_99 : decode prog_9_method_20_code 99 = .ok (.iload 4, 2) := by decide +kernel
theorem d_M_work_101 : decode prog_9_method_20_code 101 = .ok (.invokevirtual 162, 3) := by decide +kernel
theorem d_M_work_104 : decode prog_9_method_20_code 104 = .ok (.istore 8, 2) := by decide +kernel
theorem d_M_work_106 : decode prog_9_method_20_code 106 = .ok (.goto 157, 3) := by decide +kernel
theorem d_M_work_109 : decode prog_9_method_20_code 109 = .ok (.iload_n 3, 1) := by decide +kernel
theorem d_M_work_110 : decode prog_9_method_20_code 110 = .ok (.iconst 2, 1) := by decide +kernel
theorem d_M_work_111 : decode prog_9_method_20_code 111 = .ok (.if_icmp .ne 45, 3) := by decide +kernel
theorem d_M_work_114 : decode prog_9_method_20_code 114 = .ok (.iload 6, 2) := by decide +kernel
theorem d_M_work_116 : decode prog_9_method_20_code 116 = .ok (.ifCond .eq 40, 3) := by decide +kernel
theorem d_M_work_119 : decode prog_9_method_20_code 119 = .ok (.iconst 0, 1) := by decide +kernel
theorem d_M_work_120 : decode prog_9_method_20_code 120 = .ok (.istore 7, 2) := by decide +kernel
theorem d_M_work_122 : decode prog_9_method_20_code 122 = .ok (.aload_n 0, 1) := by decide +kernel
theorem d_M_work_123 : decode prog_9_method_20_code 123 = .ok (.getfield 41, 3) := by decide +kernel
theorem d_M_work_126 : decode prog_9_method_20_code 126 = .ok (.bipush 17, 2) := by decide +kernel
theorem d_M_work_128 : decode prog_9_method_20_code 128 = .ok (.iload_n 2, 1) := by decide +kernel
theorem d_M_work_129 : decode prog_9_method_20_code 129 = .ok (.imul, 1) := by decide +kernel
theorem d_M_work_130 : decode prog_9_method_20_code 130 = .ok (.iload 5, 2) := by decide +kernel
theorem d_M_work_132 : decode prog_9_method_20_code 132 = .ok (.iadd, 1) := by decide +kernel
theorem d_M_work_133 : decode prog_9_method_20_code 133 = .ok (.aload_n 0, 1) := by decide +kernel
theorem d_M_work_134 : decode prog_9_method_20_code 134 = .ok (.getfield 56, 3) := by decide +kernel
theorem d_M_work_137 : decode prog_9_method_20_code 137 = .ok (.iload_n 1, 1) := by decide +kernel
theorem d_M_work_138 : decode prog_9_method_20_code 138 = .ok (.iaload, 1) := by decide +kernel
theorem d_M_work_139 : decode prog_9_method_20_code 139 = .ok (.iastore, 1) := by decide +kernel
theorem d_M_work_140 : decode prog_9_method_20_code 140 = .ok (.aload_n 0, 1) := by decide +kernel
theorem d_M_work_141 : decode prog_9_method_20_code 141 = .ok (.getfield 44, 3) := by decide +kernel
theorem d_M_work_144 : decode prog_9_method_20_code 144 = .ok (.bipush 17, 2) := by decide +kernel
theorem d_M_work_146 : decode prog_9_method_20_code 146 = .ok (.iload_n 2, 1) := by decide +kernel
theorem d_M_work_147 : decode prog_9_method_20_code 147 = .ok (.imul, 1) := by decide +kernel
theorem d_M_work_148 : decode prog_9_method_20_code 148 = .ok (.iload 5, 2) := by decide +kernel
theorem d_M_work_150 : decode prog_9_method_20_code 150 = .ok (.iadd, 1) := by decide +kernel
theorem d_M_work_151 : decode prog_9_method_20_code 151 = .ok (.iconst 1, 1) := by decide +kernel
theorem d_M_work_152 : decode prog_9_method_20_code 152 = .ok (.bastore, 1) := by decide +kernel
theorem d_M_work_153 : decode prog_9_method_20_code 153 = .ok (.goto 110, 3) := by decide +kernel
theorem d_M_work_156 : decode prog_9_method_20_code 156 = .ok (.iload_n 3, 1) := by decide +kernel
theorem d_M_work_157 : decode prog_9_method_20_code 157 = .ok (.iconst 2, 1) := by decide +kernel
theorem d_M_work_158 : decode prog_9_method_20_code 158 = .ok (.if_icmp .ne 50, 3) := by decide +kernel
theorem d_M_work_161 : decode prog_9_method_20_code 161 = .ok (.iload 4, 2) := by decide +kernel
theorem d_M_work_163 : decode prog_9_method_20_code 163 = .ok (.iconst 2, 1) := by decide +kernel
theorem d_M_work_164 : decode prog_9_method_20_code 164 = .ok (.if_icmp .ne 44, 3) := by decide +kernel
theorem d_M_work_167 : decode prog_9_method_20_code 167 = .ok (.iload 5, 2) := by decide +kernel
theorem d_M_work_169 : decode prog_9_method_20_code 169 = .ok (.ifCond .ne 39, 3) := by decide +kernel
theorem d_M_work_172 : decode prog_9_method_20_code 172 = .ok (.aload_n 0, 1) := by decide +kernel
theorem d_M_work_173 : decode prog_9_method_20_code 173 = .ok (.getfield 56, 3) := by decide +kernel
theorem d_M_work_176 : decode prog_9_method_20_code 176 = .ok (.iload_n 1, 1) := by decide +kernel
theorem d_M_work_177 : decode prog_9_method_20_code 177 = .ok (.iaload, 1) := by decide +kernel
theorem d_M_work_178 : decode prog_9_method_20_code 178 = .ok (.sipush (-10000), 3) := by decide +kernel
theorem d_M_work_181 : decode prog_9_method_20_code 181 = .ok (.sipush 10000, 3) := by decide +kernel
theorem d_M_work_184 : decode prog_9_method_20_code 184 = .ok (.invokestatic 121, 3) := by decide +kernel
theorem d_M_work_187 : decode prog_9_method_20_code 187 = .ok (.ifCond .ne 21, 3) := by decide +kernel
theorem d_M_work_190 : decode prog_9_method_20_code 190 = .ok (.iconst 0, 1) := by decide +kernel
theorem d_M_work_191 : decode prog_9_method_20_code 191 = .ok (.istore 7, 2) := by decide +kernel
theorem d_M_work_193 : decode prog_9_method_20_code 193 = .ok (.aload_n 0, 1) := by decide +kernel
theorem d_M_work_194 : decode prog_9_method_20_code 194 = .ok (.getfield 29, 3) := by decide +kernel
theorem d_M_work_197 : decode prog_9_method_20_code 197 = .ok (.iload_n 2, 1) := by decide +kernel
theorem d_M_work_198 : decode prog_9_method_20_code 198 = .ok (.aload_n 0, 1) := by decide +kernel
theorem d_M_work_199 : decode prog_9_method_20_code 199 = .ok (.getfield 56, 3) := by decide +kernel
theorem d_M_work_202 : decode prog_9_method_20_code 202 = .ok (.iload_n 1, 1) := by decide +kernel
theorem d_M_work_203 : decode prog_9_method_20_code 203 = .ok (.iaload, 1) := by decide +kernel
theorem d_M_work_204 : decode prog_9_method_20_code 204 = .ok (.iastore, 1) := by decide +kernel
theorem d_M_work_205 : decode prog_9_method_20_code 205 = .ok (.goto 58, 3) := by decide +kernel
theorem d_M_work_208 : decode prog_9_method_20_code 208 = .ok (.iload_n 3, 1) := by decide +kernel
theorem d_M_work_209 : decode prog_9_method_20_code 209 = .ok (.iconst 3, 1) := by decide +kernel
theorem d_M_work_210 : decode prog_9_method_20_code 210 = .ok (.if_icmp .ne 27, 3) := by decide +kernel
theorem d_M_work_213 : decode prog_9_method_20_code 213 = .ok (.iload 6, 2) := by decide +kernel
theorem d_M_work_215 : decode prog_9_method_20_code 215 = .ok (.ifCond .eq 22, 3) := by decide +kernel
theorem d_M_work_218 : decode prog_9_method_20_code 218 = .ok (.iconst 0, 1) := by decide +kernel
theorem d_M_work_219 : decode prog_9_method_20_code 219 = .ok (.istore 7, 2) := by decide +kernel
theorem d_M_work_221 : decode prog_9_method_20_code 221 = .ok (.aload_n 0, 1) := by decide +kernel
theorem d_M_work_222 : decode prog_9_method_20_code 222 = .ok (.getfield 44, 3) := by decide +kernel
theorem d_M_work_225 : decode prog_9_method_20_code 225 = .ok (.bipush 17, 2) := by decide +kernel
theorem d_M_work_227 : decode prog_9_method_20_code 227 = .ok (.iload_n 2, 1) := by decide +kernel
theorem d_M_work_228 : decode prog_9_method_20_code 228 = .ok (.imul, 1) := by decide +kernel
theorem d_M_work_229 : decode prog_9_method_20_code 229 = .ok (.iload 5, 2) := by decide +kernel
theorem d_M_work_231 : decode prog_9_method_20_code 231 = .ok (.iadd, 1) := by decide +kernel
theorem d_M_work_232 : decode prog_9_method_20_code 232 = .ok (.iconst 0, 1) := by decide +kernel
theorem d_M_work_233 : decode prog_9_method_20_code 233 = .ok (.bastore, 1) := by decide +kernel
theorem d_M_work_234 : decode prog_9_method_20_code 234 = .ok (.goto 29, 3) := by decide +kernel
theorem d_M_work_237 : decode prog_9_method_20_code 237 = .ok (.iload_n 3, 1) := by decide +kernel
theorem d_M_work_238 : decode prog_9_method_20_code 238 = .ok (.iconst 4, 1) := by decide +kernel
theorem d_M_work_239 : decode prog_9_method_20_code 239 = .ok (.if_icmp .ne 24, 3) := by decide +kernel
theorem d_M_work_242 : decode prog_9_method_20_code 242 = .ok (.iload 4, 2) := by decide +kernel
theorem d_M_work_244 : decode prog_9_method_20_code 244 = .ok (.iconst 2, 1) := by decide +kernel
theorem d_M_work_245 : decode prog_9_method_20_code 245 = .ok (.if_icmp .ge 18, 3) := by decide +kernel
theorem d_M_work_248 : decode prog_9_method_20_code 248 = .ok (.aload_n 0, 1) := by decide +kernel
theorem d_M_work_249 : decode prog_9_method_20_code 249 = .ok (.iload_n 2, 1) := by decide +kernel
theorem d_M_work_250 : decode prog_9_method_20_code 250 = .ok (.aload_n 0, 1) := by decide +kernel
theorem d_M_work_251 : decode prog_9_method_20_code 251 = .ok (.getfield 47, 3) := by decide +kernel
theorem d_M_work_254 : decode prog_9_method_20_code 254 = .ok (.iload_n 1, 1) := by decide +kernel
theorem d_M_work_255 : decode prog_9_method_20_code 255 = .ok (.iaload, 1) := by decide +kernel
theorem d_M_work_256 : decode prog_9_method_20_code 256 = .ok (.iload 4, 2) := by decide +kernel
theorem d_M_work_258 : decode prog_9_method_20_code 258 = .ok (.invokevirtual 166, 3) := by decide +kernel
theorem d_M_work_261 : decode prog_9_method_20_code 261 = .ok (.istore 7, 2) := by decide +kernel
theorem d_M_work_263 : decode prog_9_method_20_code 263 = .ok (.aload_n 0, 1) := by decide +kernel
theorem d_M_work_264 : decode prog_9_method_20_code 264 = .ok (.getfield 65, 3) := by decide +kernel
theorem d_M_work_267 : decode prog_9_method_20_code 267 = .ok (.iload_n 1, 1) := by decide +kernel
theorem d_M_work_268 : decode prog_9_method_20_code 268 = .ok (.iconst 1, 1) := by decide +kernel
theorem d_M_work_269 : decode prog_9_method_20_code 269 = .ok (.bastore, 1) := by decide +kernel
theorem d_M_work_270 : decode prog_9_method_20_code 270 = .ok (.aload_n 0, 1) := by decide +kernel
theorem d_M_work_271 : decode prog_9_method_20_code 271 = .ok (.getfield 68, 3) := by decide +kernel
theorem d_M_work_274 : decode prog_9_method_20_code 274 = .ok (.iload_n 1, 1) := by decide +kernel
theorem d_M_work_275 : decode prog_9_method_20_code 275 = .ok (.iload 7, 2) := by decide +kernel
theorem d_M_work_277 : decode prog_9_method_20_code 277 = .ok (.bastore, 1) := by decide +kernel
theorem d_M_work_278 : decode prog_9_method_20_code 278 = .ok (.aload_n 0, 1) := by decide +kernel
theorem d_M_work_279 : decode prog_9_method_20_code 279 = .ok (.getfield 71, 3) := by decide +kernel
theorem d_M_work_282 : decode prog_9_method_20_code 282 = .ok (.iload_n 1, 1) := by decide +kernel
theorem d_M_work_283 : decode prog_9_method_20_code 283 = .ok (.iload 7, 2) := by decide +kernel
theorem d_M_work_285 : decode prog_9_method_20_code 285 = .ok (.ifCond .eq 7, 3) := by decide +kernel
theorem d_M_work_288 : decode prog_9_method_20_code 288 = .ok (.iconst 0, 1) := by decide +kernel
theorem d_M_work_289 : decode prog_9_method_20_code 289 = .ok (.goto 5, 3) := by decide +kernel
theorem d_M_work_292 : decode prog_9_method_20_code 292 = .ok (.iload 8, 2) := by decide +kernel
theorem d_M_work_294 : decode prog_9_method_20_code 294 = .ok (.iastore, 1) := by decide +kernel
theorem d_M_work_295 : decode prog_9_method_20_code 295 = .ok (.return_, 1) := by decide +kernel
theorem d_M_dueOf_0 : decode prog_9_method_21_code 0 = .ok (.iconst 0, 1) := by decide +kernel
theorem d_M_dueOf_1 : decode prog_9_method_21_code 1 = .ok (.istore_n 2, 1) := by decide +kernel
theorem d_M_dueOf_2 : decode prog_9_method_21_code 2 = .ok (.iload_n 2, 1) := by decide +kernel
theorem d_M_dueOf_3 : decode prog_9_method_21_code 3 = .ok (.aload_n 0, 1) := by decide +kernel
theorem d_M_dueOf_4 : decode prog_9_method_21_code 4 = .ok (.getfield 115, 3) := by decide +kernel
theorem d_M_dueOf_7 : decode prog_9_method_21_code 7 = .ok (.if_icmp .ge 30, 3) := by decide +kernel
theorem d_M_dueOf_10 : decode prog_9_method_21_code 10 = .ok (.aload_n 0, 1) := by decide +kernel
theorem d_M_dueOf_11 : decode prog_9_method_21_code 11 = .ok (.getfield 74, 3) := by decide +kernel
theorem d_M_dueOf_14 : decode prog_9_method_21_code 14 = .ok (.iload_n 2, 1) := by decide +kernel
theorem d_M_dueOf_15 : decode prog_9_method_21_code 15 = .ok (.iaload, 1) := by decide +kernel
theorem d_M_dueOf_16 : decode prog_9_method_21_code 16 = .ok (.iload_n 1, 1) := by decide +kernel
theorem d_M_dueOf_17 : decode prog_9_method_21_code 17 = .ok (.if_icmp .ne 14, 3) := by decide +kernel
theorem d_M_dueOf_20 : decode prog_9_method_21_code 20 = .ok (.aload_n 0, 1) := by decide +kernel
theorem d_M_dueOf_21 : decode prog_9_method_21_code 21 = .ok (.getfield 86, 3) := by decide +kernel
theorem d_M_dueOf_24 : decode prog_9_method_21_code 24 = .ok (.iload_n 2, 1) := by decide +kernel
theorem d_M_dueOf_25 : decode prog_9_method_21_code 25 = .ok (.baload, 1) := by decide +kernel
theorem d_M_dueOf_26 : decode prog_9_method_21_code 26 = .ok (.ifCond .eq 5, 3) := by decide +kernel
theorem d_M_dueOf_29 : decode prog_9_method_21_code 29 = .ok (.iload_n 2, 1) := by decide +kernel
theorem d_M_dueOf_30 : decode prog_9_method_21_code 30 = .ok (.ireturn, 1) := by decide +kernel
theorem d_M_dueOf_31 : decode prog_9_method_21_code 31 = .ok (.iinc 2 1, 3) := by decide +kernel
theorem d_M_dueOf_34 : decode prog_9_method_21_code 34 = .ok (.goto (-32), 3) := by decide +kernel
theorem d_M_dueOf_37 : decode prog_9_method_21_code 37 = .ok (.iconst (-1), 1) := by decide +kernel
theorem d_M_dueOf_38 : decode prog_9_method_21_code 38 = .ok (.ireturn, 1) := by decide +kernel
theorem d_M_firstOf_0 : decode prog_9_method_22_code 0 = .ok (.iconst 0, 1) := by decide +kernel
theorem d_M_firstOf_1 : decode prog_9_method_22_code 1 = .ok (.istore_n 2, 1) := by decide +kernel
theorem d_M_firstOf_2 : decode prog_9_method_22_code 2 = .ok (.iload_n 2, 1) := by decide +kernel
theorem d_M_firstOf_3 : decode prog_9_method_22_code 3 = .ok (.aload_n 0, 1) := by decide +kernel
theorem d_M_firstOf_4 : decode prog_9_method_22_code 4 = .ok (.getfield 125, 3) := by decide +kernel
theorem d_M_firstOf_7 : decode prog_9_method_22_code 7 = .ok (.if_icmp .ge 30, 3) := by decide +kernel
theorem d_M_firstOf_10 : decode prog_9_method_22_code 10 = .ok (.aload_n 0, 1) := by decide +kernel
theorem d_M_firstOf_11 : decode prog_9_method_22_code 11 = .ok (.getfield 47, 3) := by decide +kernel
theorem d_M_firstOf_14 : decode prog_9_method_22_code 14 = .ok (.iload_n 2, 1) := by decide +kernel
theorem d_M_firstOf_15 : decode prog_9_method_22_code 15 = .ok (.iaload, 1) := by decide +kernel
theorem d_M_firstOf_16 : decode prog_9_method_22_code 16 = .ok (.iload_n 1, 1) := by decide +kernel
theorem d_M_firstOf_17 : decode prog_9_method_22_code 17 = .ok (.if_icmp .ne 14, 3) := by decide +kernel
theorem d_M_firstOf_20 : decode prog_9_method_22_code 20 = .ok (.aload_n 0, 1) := by decide +kernel
theorem d_M_firstOf_21 : decode prog_9_method_22_code 21 = .ok (.getfield 59, 3) := by decide +kernel
theorem d_M_firstOf_24 : decode prog_9_method_22_code 24 = .ok (.iload_n 2, 1) := by decide +kernel
theorem d_M_firstOf_25 : decode prog_9_method_22_code 25 = .ok (.iaload, 1) := by decide +kernel
theorem d_M_firstOf_26 : decode prog_9_method_22_code 26 = .ok (.ifCond .ne 5, 3) := by decide +kernel
theorem d_M_firstOf_29 : decode prog_9_method_22_code 29 = .ok (.iload_n 2, 1) := by decide +kernel
theorem d_M_firstOf_30 : decode prog_9_method_22_code 30 = .ok (.ireturn, 1) := by decide +kernel
theorem d_M_firstOf_31 : decode prog_9_method_22_code 31 = .ok (.iinc 2 1, 3) := by decide +kernel
theorem d_M_firstOf_34 : decode prog_9_method_22_code 34 = .ok (.goto (-32), 3) := by decide +kernel
theorem d_M_firstOf_37 : decode prog_9_method_22_code 37 = .ok (.iconst (-1), 1) := by decide +kernel
theorem d_M_firstOf_38 : decode prog_9_method_22_code 38 = .ok (.ireturn, 1) := by decide +kernel
theorem d_M_tell_0 : decode prog_9_method_23_code 0 = .ok (.aload_n 0, 1) := by decide +kernel
theorem d_M_tell_1 : decode prog_9_method_23_code 1 = .ok (.aload_n 0, 1) := by decide +kernel
theorem d_M_tell_2 : decode prog_9_method_23_code 2 = .ok (.getfield 107, 3) := by decide +kernel
theorem d_M_tell_5 : decode prog_9_method_23_code 5 = .ok (.aload_n 0, 1) := by decide +kernel
theorem d_M_tell_6 : decode prog_9_method_23_code 6 = .ok (.getfield 80, 3) := by decide +kernel
theorem d_M_tell_9 : decode prog_9_method_23_code 9 = .ok (.iload_n 1, 1) := by decide +kernel
theorem d_M_tell_10 : decode prog_9_method_23_code 10 = .ok (.iaload, 1) := by decide +kernel
theorem d_M_tell_11 : decode prog_9_method_23_code 11 = .ok (.invokevirtual 162, 3) := by decide +kernel
theorem d_M_tell_14 : decode prog_9_method_23_code 14 = .ok (.istore_n 2, 1) := by decide +kernel
theorem d_M_tell_15 : decode prog_9_method_23_code 15 = .ok (.aload_n 0, 1) := by decide +kernel
theorem d_M_tell_16 : decode prog_9_method_23_code 16 = .ok (.iconst 5, 1) := by decide +kernel
theorem d_M_tell_17 : decode prog_9_method_23_code 17 = .ok (.iconst 0, 1) := by decide +kernel
theorem d_M_tell_18 : decode prog_9_method_23_code 18 = .ok (.aload_n 0, 1) := by decide +kernel
theorem d_M_tell_19 : decode prog_9_method_23_code 19 = .ok (.getfield 80, 3) := by decide +kernel
theorem d_M_tell_22 : decode prog_9_method_23_code 22 = .ok (.iload_n 1, 1) := by decide +kernel
theorem d_M_tell_23 : decode prog_9_method_23_code 23 = .ok (.iaload, 1) := by decide +kernel
theorem d_M_tell_24 : decode prog_9_method_23_code 24 = .ok (.iconst 0, 1) := by decide +kernel
theorem d_M_tell_25 : decode prog_9_method_23_code 25 = .ok (.iload_n 2, 1) := by decide +kernel
theorem d_M_tell_26 : decode prog_9_method_23_code 26 = .ok (.invokevirtual 169, 3) := by decide +kernel
theorem d_M_tell_29 : decode prog_9_method_23_code 29 = .ok (.aload_n 0, 1) := by decide +kernel
theorem d_M_tell_30 : decode prog_9_method_23_code 30 = .ok (.bipush 6, 2) := by decide +kernel
theorem d_M_tell_32 : decode prog_9_method_23_code 32 = .ok (.aload_n 0, 1) := by decide +kernel
theorem d_M_tell_33 : decode prog_9_method_23_code 33 = .ok (.getfield 77, 3) := by decide +kernel
theorem d_M_tell_36 : decode prog_9_method_23_code 36 = .ok (.iload_n 1, 1) := by decide +kernel
theorem d_M_tell_37 : decode prog_9_method_23_code 37 = .ok (.iaload, 1) := by decide +kernel
theorem d_M_tell_38 : decode prog_9_method_23_code 38 = .ok (.aload_n 0, 1) := by decide +kernel
theorem d_M_tell_39 : decode prog_9_method_23_code 39 = .ok (.getfield 107, 3) := by decide +kernel
theorem d_M_tell_42 : decode prog_9_method_23_code 42 = .ok (.iconst 1, 1) := by decide +kernel
theorem d_M_tell_43 : decode prog_9_method_23_code 43 = .ok (.invokevirtual 173, 3) := by decide +kernel
theorem d_M_tell_46 : decode prog_9_method_23_code 46 = .ok (.istore_n 3, 1) := by decide +kernel
theorem d_M_tell_47 : decode prog_9_method_23_code 47 = .ok (.aload_n 0, 1) := by decide +kernel
theorem d_M_tell_48 : decode prog_9_method_23_code 48 = .ok (.getfield 83, 3) := by decide +kernel
theorem d_M_tell_51 : decode prog_9_method_23_code 51 = .ok (.iload_n 1, 1) := by decide +kernel
theorem d_M_tell_52 : decode prog_9_method_23_code 52 = .ok (.iload_n 2, 1) := by decide +kernel
theorem d_M_tell_53 : decode prog_9_method_23_code 53 = .ok (.iastore, 1) := by decide +kernel
theorem d_M_tell_54 : decode prog_9_method_23_code 54 = .ok (.aload_n 0, 1) := by decide +kernel
theorem d_M_tell_55 : decode prog_9_method_23_code 55 = .ok (.getfield 86, 3) := by decide +kernel
theorem d_M_tell_58 : decode prog_9_method_23_code 58 = .ok (.iload_n 1, 1) := by decide +kernel
theorem d_M_tell_59 : decode prog_9_method_23_code 59 = .ok (.iconst 0, 1) := by decide +kernel
theorem d_M_tell_60 : decode prog_9_method_23_code 60 = .ok (.bastore, 1) := by decide +kernel
theorem d_M_tell_61 : decode prog_9_method_23_code 61 = .ok (.iload_n 3, 1) := by decide +kernel
theorem d_M_tell_62 : decode prog_9_method_23_code 62 = .ok (.ifCond .eq 62, 3) := by decide +kernel
theorem d_M_tell_65 : decode prog_9_method_23_code 65 = .ok (.aload_n 0, 1) := by decide +kernel
theorem d_M_tell_66 : decode prog_9_method_23_code 66 = .ok (.getfield 89, 3) := by decide +kernel
theorem d_M_tell_69 : decode prog_9_method_23_code 69 = .ok (.aload_n 0, 1) := by decide +kernel
theorem d_M_tell_70 : decode prog_9_method_23_code 70 = .ok (.getfield 77, 3) := by decide +kernel
theorem d_M_tell_73 : decode prog_9_method_23_code 73 = .ok (.iload_n 1, 1) := by decide +kernel
theorem d_M_tell_74 : decode prog_9_method_23_code 74 = .ok (.iaload, 1) := by decide +kernel
theorem d_M_tell_75 : decode prog_9_method_23_code 75 = .ok (.aload_n 0, 1) := by decide +kernel
theorem d_M_tell_76 : decode prog_9_method_23_code 76 = .ok (.getfield 107, 3) := by decide +kernel
theorem d_M_tell_79 : decode prog_9_method_23_code 79 = .ok (.iastore, 1) := by decide +kernel
theorem d_M_tell_80 : decode prog_9_method_23_code 80 = .ok (.aload_n 0, 1) := by decide +kernel
theorem d_M_tell_81 : decode prog_9_method_23_code 81 = .ok (.getfield 92, 3) := by decide +kernel
theorem d_M_tell_84 : decode prog_9_method_23_code 84 = .ok (.aload_n 0, 1) := by decide +kernel
theorem d_M_tell_85 : decode prog_9_method_23_code 85 = .ok (.getfield 77, 3) := by decide +kernel
theorem d_M_tell_88 : decode prog_9_method_23_code 88 = .ok (.iload_n 1, 1) := by decide +kernel
theorem d_M_tell_89 : decode prog_9_method_23_code 89 = .ok (.iaload, 1) := by decide +kernel
theorem d_M_tell_90 : decode prog_9_method_23_code 90 = .ok (.aload_n 0, 1) := by decide +kernel
theorem d_M_tell_91 : decode prog_9_method_23_code 91 = .ok (.getfield 80, 3) := by decide +kernel
theorem d_M_tell_94 : decode prog_9_method_23_code 94 = .ok (.iload_n 1, 1) := by decide +kernel
theorem d_M_tell_95 : decode prog_9_method_23_code 95 = .ok (.iaload, 1) := by decide +kernel
theorem d_M_tell_96 : decode prog_9_method_23_code 96 = .ok (.iastore, 1) := by decide +kernel
theorem d_M_tell_97 : decode prog_9_method_23_code 97 = .ok (.aload_n 0, 1) := by decide +kernel
theorem d_M_tell_98 : decode prog_9_method_23_code 98 = .ok (.getfield 95, 3) := by decide +kernel
theorem d_M_tell_101 : decode prog_9_method_23_code 101 = .ok (.aload_n 0, 1) := by decide +kernel
theorem d_M_tell_102 : decode prog_9_method_23_code 102 = .ok (.getfield 77, 3) := by decide +kernel
theorem d_M_tell_105 : decode prog_9_method_23_code 105 = .ok (.iload_n 1, 1) := by decide +kernel
theorem d_M_tell_106 : decode prog_9_method_23_code 106 = .ok (.iaload, 1) := by decide +kernel
theorem d_M_tell_107 : decode prog_9_method_23_code 107 = .ok (.iload_n 2, 1) := by decide +kernel
theorem d_M_tell_108 : decode prog_9_method_23_code 108 = .ok (.iastore, 1) := by decide +kernel
theorem d_M_tell_109 : decode prog_9_method_23_code 109 = .ok (.aload_n 0, 1) := by decide +kernel
theorem d_M_tell_110 : decode prog_9_method_23_code 110 = .ok (.getfield 98, 3) := by decide +kernel
theorem d_M_tell_113 : decode prog_9_method_23_code 113 = .ok (.aload_n 0, 1) := by decide +kernel
theorem d_M_tell_114 : decode prog_9_method_23_code 114 = .ok (.getfield 77, 3) := by decide +kernel
theorem d_M_tell_117 : decode prog_9_method_23_code 117 = .ok (.iload_n 1, 1) := by decide +kernel
theorem d_M_tell_118 : decode prog_9_method_23_code 118 = .ok (.iaload, 1) := by decide +kernel
theorem d_M_tell_119 : decode prog_9_method_23_code 119 = .ok (.dup2, 1) := by decide +kernel
theorem d_M_tell_120 : decode prog_9_method_23_code 120 = .ok (.iaload, 1) := by decide +kernel
theorem d_M_tell_121 : decode prog_9_method_23_code 121 = .ok (.iconst 1, 1) := by decide +kernel
theorem d_M_tell_122 : decode prog_9_method_23_code 122 = .ok (.iadd, 1) := by decide +kernel
theorem d_M_tell_123 : decode prog_9_method_23_code 123 = .ok (.iastore, 1) := by decide +kernel
theorem d_M_tell_124 : decode prog_9_method_23_code 124 = .ok (.return_, 1) := by decide +kernel
theorem d_M_ask_0 : decode prog_9_method_24_code 0 = .ok (.aload_n 0, 1) := by decide +kernel
theorem d_M_ask_1 : decode prog_9_method_24_code 1 = .ok (.getfield 53, 3) := by decide +kernel
theorem d_M_ask_4 : decode prog_9_method_24_code 4 = .ok (.iload_n 1, 1) := by decide +kernel
theorem d_M_ask_5 : decode prog_9_method_24_code 5 = .ok (.iaload, 1) := by decide +kernel
theorem d_M_ask_6 : decode prog_9_method_24_code 6 = .ok (.bipush 8, 2) := by decide +kernel
theorem d_M_ask_8 : decode prog_9_method_24_code 8 = .ok (.irem, 1) := by decide +kernel
theorem d_M_ask_9 : decode prog_9_method_24_code 9 = .ok (.istore_n 2, 1) := by decide +kernel
theorem d_M_ask_10 : decode prog_9_method_24_code 10 = .ok (.aload_n 0, 1) := by decide +kernel
theorem d_M_ask_11 : decode prog_9_method_24_code 11 = .ok (.getfield 53, 3) := by decide +kernel
theorem d_M_ask_14 : decode prog_9_method_24_code 14 = .ok (.iload_n 1, 1) := by decide +kernel
theorem d_M_ask_15 : decode prog_9_method_24_code 15 = .ok (.iaload, 1) := by decide +kernel
theorem d_M_ask_16 : decode prog_9_method_24_code 16 = .ok (.bipush 8, 2) := by decide +kernel
theorem d_M_ask_18 : decode prog_9_method_24_code 18 = .ok (.idiv, 1) := by decide +kernel
theorem d_M_ask_19 : decode prog_9_method_24_code 19 = .ok (.bipush 8, 2) := by decide +kernel
theorem d_M_ask_21 : decode prog_9_method_24_code 21 = .ok (.irem, 1) := by decide +kernel
theorem d_M_ask_22 : decode prog_9_method_24_code 22 = .ok (.istore_n 3, 1) := by decide +kernel
theorem d_M_ask_23 : decode prog_9_method_24_code 23 = .ok (.aload_n 0, 1) := by decide +kernel
theorem d_M_ask_24 : decode prog_9_method_24_code 24 = .ok (.getfield 53, 3) := by decide +kernel
theorem d_M_ask_27 : decode prog_9_method_24_code 27 = .ok (.iload_n 1, 1) := by decide +kernel
theorem d_M_ask_28 : decode prog_9_method_24_code 28 = .ok (.iaload, 1) := by decide +kernel
theorem d_M_ask_29 : decode prog_9_method_24_code 29 = .ok (.bipush 64, 2) := by decide +kernel
theorem d_M_ask_31 : decode prog_9_method_24_code 31 = .ok (.idiv, 1) := by decide +kernel
theorem d_M_ask_32 : decode prog_9_method_24_code 32 = .ok (.istore 4, 2) := by decide +kernel
theorem d_M_ask_34 : decode prog_9_method_24_code 34 = .ok (.aload_n 0, 1) := by decide +kernel
theorem d_M_ask_35 : decode prog_9_method_24_code 35 = .ok (.iload_n 2, 1) := by decide +kernel
theorem d_M_ask_36 : decode prog_9_method_24_code 36 = .ok (.iload_n 1, 1) := by decide +kernel
theorem d_M_ask_37 : decode prog_9_method_24_code 37 = .ok (.iload_n 3, 1) := by decide +kernel
theorem d_M_ask_38 : decode prog_9_method_24_code 38 = .ok (.iload 4, 2) := by decide +kernel
theorem d_M_ask_40 : decode prog_9_method_24_code 40 = .ok (.aload_n 0, 1) := by decide +kernel
theorem d_M_ask_41 : decode prog_9_method_24_code 41 = .ok (.getfield 56, 3) := by decide +kernel
theorem d_M_ask_44 : decode prog_9_method_24_code 44 = .ok (.iload_n 1, 1) := by decide +kernel
theorem d_M_ask_45 : decode prog_9_method_24_code 45 = .ok (.iaload, 1) := by decide +kernel
theorem d_M_ask_46 : decode prog_9_method_24_code 46 = .ok (.invokevirtual 169, 3) := by decide +kernel
theorem d_M_ask_49 : decode prog_9_method_24_code 49 = .ok (.iconst 0, 1) := by decide +kernel
theorem d_M_ask_50 : decode prog_9_method_24_code 50 = .ok (.istore 5, 2) := by decide +kernel
theorem d_M_ask_52 : decode prog_9_method_24_code 52 = .ok (.aload_n 0, 1) := by decide +kernel
theorem d_M_ask_53 : decode prog_9_method_24_code 53 = .ok (.iconst 5, 1) := by decide +kernel
theorem d_M_ask_54 : decode prog_9_method_24_code 54 = .ok (.aload_n 0, 1) := by decide +kernel
theorem d_M_ask_55 : decode prog_9_method_24_code 55 = .ok (.getfield 50, 3) := by decide +kernel
theorem d_M_ask_58 : decode prog_9_method_24_code 58 = .ok (.iload_n 1, 1) := by decide +kernel
theorem d_M_ask_59 : decode prog_9_method_24_code 59 = .ok (.iaload, 1) := by decide +kernel
theorem d_M_ask_60 : decode prog_9_method_24_code 60 = .ok (.aload_n 0, 1) := by decide +kernel
theorem d_M_ask_61 : decode prog_9_method_24_code 61 = .ok (.getfield 107, 3) := by decide +kernel
theorem d_M_ask_64 : decode prog_9_method_24_code 64 = .ok (.iconst 1, 1) := by decide +kernel
theorem d_M_ask_65 : decode prog_9_method_24_code 65 = .ok (.invokevirtual 173, 3) := by decide +kernel
theorem d_M_ask_68 : decode prog_9_method_24_code 68 = .ok (.ifCond .eq 69, 3) := by decide +kernel
theorem d_M_ask_71 : decode prog_9_method_24_code 71 = .ok (.aload_n 0, 1) := by decide +kernel
theorem d_M_ask_72 : decode prog_9_method_24_code 72 = .ok (.getfield 65, 3) := by decide +kernel
theorem d_M_ask_75 : decode prog_9_method_24_code 75 = .ok (.iload_n 1, 1) := by decide +kernel
theorem d_M_ask_76 : decode prog_9_method_24_code 76 = .ok (.baload, 1) := by decide +kernel
theorem d_M_ask_77 : decode prog_9_method_24_code 77 = .ok (.ifCond .ne 8, 3) := by decide +kernel
theorem d_M_ask_80 : decode prog_9_method_24_code 80 = .ok (.aload_n 0, 1) := by decide +kernel
theorem d_M_ask_81 : decode prog_9_method_24_code 81 = .ok (.iload_n 1, 1) := by decide +kernel
theorem d_M_ask_82 : decode prog_9_method_24_code 82 = .ok (.invokevirtual 177, 3) := by decide +kernel
theorem d_M_ask_85 : decode prog_9_method_24_code 85 = .ok (.aload_n 0, 1) := by decide +kernel
theorem d_M_ask_86 : decode prog_9_method_24_code 86 = .ok (.iload_n 2, 1) := by decide +kernel
theorem d_M_ask_87 : decode prog_9_method_24_code 87 = .ok (.aload_n 0, 1) := by decide +kernel
theorem d_M_ask_88 : decode prog_9_method_24_code 88 = .ok (.getfield 68, 3) := by decide +kernel
theorem d_M_ask_91 : decode prog_9_method_24_code 91 = .ok (.iload_n 1, 1) := by decide +kernel
theorem d_M_ask_92 : decode prog_9_method_24_code 92 = .ok (.baload, 1) := by decide +kernel
theorem d_M_ask_93 : decode prog_9_method_24_code 93 = .ok (.ifCond .eq 8, 3) := by decide +kernel
theorem d_M_ask_96 : decode prog_9_method_24_code 96 = .ok (.bipush 64, 2) := by decide +kernel
theorem d_M_ask_98 : decode prog_9_method_24_code 98 = .ok (.goto 6, 3) := by decide +kernel
theorem d_M_ask_101 : decode prog_9_method_24_code 101 = .ok (.sipush 128, 3) := by decide +kernel
theorem d_M_ask_104 : decode prog_9_method_24_code 104 = .ok (.iadd, 1) := by decide +kernel
theorem d_M_ask_105 : decode prog_9_method_24_code 105 = .ok (.iload_n 1, 1) := by decide +kernel
theorem d_M_ask_106 : decode prog_9_method_24_code 106 = .ok (.iload_n 3, 1) := by decide +kernel
theorem d_M_ask_107 : decode prog_9_method_24_code 107 = .ok (.iload 4, 2) := by decide +kernel
theorem d_M_ask_109 : decode prog_9_method_24_code 109 = .ok (.aload_n 0, 1) := by decide +kernel
theorem d_M_ask_110 : decode prog_9_method_24_code 110 = .ok (.getfield 71, 3) := by decide +kernel
theorem d_M_ask_113 : decode prog_9_method_24_code 113 = .ok (.iload_n 1, 1) := by decide +kernel
theorem d_M_ask_114 : decode prog_9_method_24_code 114 = .ok (.iaload, 1) := by decide +kernel
theorem d_M_ask_115 : decode prog_9_method_24_code 115 = .ok (.invokevirtual 169, 3) := by decide +kernel
theorem d_M_ask_118 : decode prog_9_method_24_code 118 = .ok (.aload_n 0, 1) := by decide +kernel
theorem d_M_ask_119 : decode prog_9_method_24_code 119 = .ok (.bipush 6, 2) := by decide +kernel
theorem d_M_ask_121 : decode prog_9_method_24_code 121 = .ok (.aload_n 0, 1) := by decide +kernel
theorem d_M_ask_122 : decode prog_9_method_24_code 122 = .ok (.getfield 107, 3) := by decide +kernel
theorem d_M_ask_125 : decode prog_9_method_24_code 125 = .ok (.aload_n 0, 1) := by decide +kernel
theorem d_M_ask_126 : decode prog_9_method_24_code 126 = .ok (.getfield 50, 3) := by decide +kernel
theorem d_M_ask_129 : decode prog_9_method_24_code 129 = .ok (.iload_n 1, 1) := by decide +kernel
theorem d_M_ask_130 : decode prog_9_method_24_code 130 = .ok (.iaload, 1) := by decide +kernel
theorem d_M_ask_131 : decode prog_9_method_24_code 131 = .ok (.iconst 1, 1) := by decide +kernel
theorem d_M_ask_132 : decode prog_9_method_24_code 132 = .ok (.invokevirtual 173, 3) := by decide +kernel
theorem d_M_ask_135 : decode prog_9_method_24_code 135 = .ok (.istore 5, 2) := by decide +kernel
theorem d_M_ask_137 : decode prog_9_method_24_code 137 = .ok (.aload_n 0, 1) := by decide +kernel
theorem d_M_ask_138 : decode prog_9_method_24_code 138 = .ok (.getfield 62, 3) := by decide +kernel
theorem d_M_ask_141 : decode prog_9_method_24_code 141 = .ok (.iload_n 1, 1) := by decide +kernel
theorem d_M_ask_142 : decode prog_9_method_24_code 142 = .ok (.iload 5, 2) := by decide +kernel
theorem d_M_ask_144 : decode prog_9_method_24_code 144 = .ok (.ifCond .eq 12, 3) := by decide +kernel
theorem d_M_ask_147 : decode prog_9_method_24_code 147 = .ok (.aload_n 0, 1) := by decide +kernel
theorem d_M_ask_148 : decode prog_9_method_24_code 148 = .ok (.getfield 62, 3) := by decide +kernel
theorem d_M_ask_151 : decode prog_9_method_24_code 151 = .ok (.iload_n 1, 1) := by decide +kernel
theorem d_M_ask_152 : decode prog_9_method_24_code 152 = .ok (.iaload, 1) := by decide +kernel
theorem d_M_ask_153 : decode prog_9_method_24_code 153 = .ok (.goto 11, 3) := by decide +kernel
theorem d_M_ask_156 : decode prog_9_method_24_code 156 = .ok (.aload_n 0, 1) := by decide +kernel
theorem d_M_ask_157 : decode prog_9_method_24_code 157 = .ok (.getfield 62, 3) := by decide +kernel
theorem d_M_ask_160 : decode prog_9_method_24_code 160 = .ok (.iload_n 1, 1) := by decide +kernel
theorem d_M_ask_161 : decode prog_9_method_24_code 161 = .ok (.iaload, 1) := by decide +kernel
theorem d_M_ask_162 : decode prog_9_method_24_code 162 = .ok (.iconst 1, 1) := by decide +kernel
theorem d_M_ask_163 : decode prog_9_method_24_code 163 = .ok (.iadd, 1) := by decide +kernel
theorem d_M_ask_164 : decode prog_9_method_24_code 164 = .ok (.iastore, 1) := by decide +kernel
theorem d_M_ask_165 : decode prog_9_method_24_code 165 = .ok (.aload_n 0, 1) := by decide +kernel
theorem d_M_ask_166 : decode prog_9_method_24_code 166 = .ok (.getfield 59, 3) := by decide +kernel
theorem d_M_ask_169 : decode prog_9_method_24_code 169 = .ok (.iload_n 1, 1) := by decide +kernel
theorem d_M_ask_170 : decode prog_9_method_24_code 170 = .ok (.iload 5, 2) := by decide +kernel
theorem d_M_ask_172 : decode prog_9_method_24_code 172 = .ok (.ifCond .eq 20, 3) := by decide +kernel
theorem d_M_ask_175 : decode prog_9_method_24_code 175 = .ok (.aload_n 0, 1) := by decide +kernel
theorem d_M_ask_176 : decode prog_9_method_24_code 176 = .ok (.getfield 68, 3) := by decide +kernel
theorem d_M_ask_179 : decode prog_9_method_24_code 179 = .ok (.iload_n 1, 1) := by decide +kernel
theorem d_M_ask_180 : decode prog_9_method_24_code 180 = .ok (.baload, 1) := by decide +kernel
theorem d_M_ask_181 : decode prog_9_method_24_code 181 = .ok (.ifCond .eq 7, 3) := by decide +kernel
theorem d_M_ask_184 : decode prog_9_method_24_code 184 = .ok (.iconst 2, 1) := by decide +kernel
theorem d_M_ask_185 : decode prog_9_method_24_code 185 = .ok (.goto 22, 3) := by decide +kernel
theorem d_M_ask_188 : decode prog_9_method_24_code 188 = .ok (.iconst 1, 1) := by decide +kernel
theorem d_M_ask_189 : decode prog_9_method_24_code 189 = .ok (.goto 18, 3) := by decide +kernel
theorem d_M_ask_192 : decode prog_9_method_24_code 192 = .ok (.aload_n 0, 1) := by decide +kernel
theorem d_M_ask_193 : decode prog_9_method_24_code 193 = .ok (.getfield 62, 3) := by decide +kernel
theorem d_M_ask_196 : decode prog_9_method_24_code 196 = .ok (.iload_n 1, 1) := by decide +kernel
theorem d_M_ask_197 : decode prog_9_method_24_code 197 = .ok (.iaload, 1) := by decide +kernel
theorem d_M_ask_198 : decode prog_9_method_24_code 198 = .ok (.iconst 3, 1) := by decide +kernel
theorem d_M_ask_199 : decode prog_9_method_24_code 199 = .ok (.if_icmp .ne 7, 3) := by decide +kernel
theorem d_M_ask_202 : decode prog_9_method_24_code 202 = .ok (.iconst 3, 1) := by decide +kernel
theorem d_M_ask_203 : decode prog_9_method_24_code 203 = .ok (.goto 4, 3) := by decide +kernel
theorem d_M_ask_206 : decode prog_9_method_24_code 206 = .ok (.iconst 0, 1) := by decide +kernel
theorem d_M_ask_207 : decode prog_9_method_24_code 207 = .ok (.iastore, 1) := by decide +kernel
theorem d_M_ask_208 : decode prog_9_method_24_code 208 = .ok (.return_, 1) := by decide +kernel
