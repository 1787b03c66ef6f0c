theorem dX7_init_0 : decode cX7_init 0 = .ok (.aload_n 0, 1) := by decide +kernel
theorem dX7_init_1 : decode cX7_init 1 = .ok (.invokespecial 1, 3) := by decide +kernel
theorem dX7_init_4 : decode cX7_init 4 = .ok (.aload_n 0, 1) := by decide +kernel
theorem dX7_init_5 : decode cX7_init 5 = .ok (.sipush 11120, 3) := by decide +kernel
theorem dX7_init_8 : decode cX7_init 8 = .ok (.newarray .int, 2) := by decide +kernel
theorem dX7_init_10 : decode cX7_init 10 = .ok (.putfield 7, 3) := by decide +kernel
theorem dX7_init_13 : decode cX7_init 13 = .ok (.aload_n 0, 1) := by decide +kernel
theorem dX7_init_14 : decode cX7_init 14 = .ok (.sipush 11120, 3) := by decide +kernel
theorem dX7_init_17 : decode cX7_init 17 = .ok (.newarray .int, 2) := by decide +kernel
theorem dX7_init_19 : decode cX7_init 19 = .ok (.putfield 13, 3) := by decide +kernel
theorem dX7_init_22 : decode cX7_init 22 = .ok (.aload_n 0, 1) := by decide +kernel
theorem dX7_init_23 : decode cX7_init 23 = .ok (.sipush 300, 3) := by decide +kernel
theorem dX7_init_26 : decode cX7_init 26 = .ok (.newarray .byte, 2) := by decide +kernel
theorem dX7_init_28 : decode cX7_init 28 = .ok (.putfield 16, 3) := by decide +kernel
theorem dX7_init_31 : decode cX7_init 31 = .ok (.aload_n 0, 1) := by decide +kernel
theorem dX7_init_32 : decode cX7_init 32 = .ok (.iconst (-1), 1) := by decide +kernel
theorem dX7_init_33 : decode cX7_init 33 = .ok (.putfield 20, 3) := by decide +kernel
theorem dX7_init_36 : decode cX7_init 36 = .ok (.aload_n 0, 1) := by decide +kernel
theorem dX7_init_37 : decode cX7_init 37 = .ok (.iconst (-1), 1) := by decide +kernel
theorem dX7_init_38 : decode cX7_init 38 = .ok (.putfield 24, 3) := by decide +kernel
theorem dX7_init_41 : decode cX7_init 41 = .ok (.aload_n 0, 1) := by decide +kernel
theorem dX7_init_42 : decode cX7_init 42 = .ok (.iconst 4, 1) := by decide +kernel
theorem dX7_init_43 : decode cX7_init 43 = .ok (.newarray .int, 2) := by decide +kernel
theorem dX7_init_45 : decode cX7_init 45 = .ok (.putfield 27, 3) := by decide +kernel
theorem dX7_init_48 : decode cX7_init 48 = .ok (.aload_n 0, 1) := by decide +kernel
theorem dX7_init_49 : decode cX7_init 49 = .ok (.bipush 96, 2) := by decide +kernel
theorem dX7_init_51 : decode cX7_init 51 = .ok (.newarray .int, 2) := by decide +kernel
theorem dX7_init_53 : decode cX7_init 53 = .ok (.putfield 30, 3) := by decide +kernel
theorem dX7_init_56 : decode cX7_init 56 = .ok (.aload_n 0, 1) := by decide +kernel
theorem dX7_init_57 : decode cX7_init 57 = .ok (.bipush 96, 2) := by decide +kernel
theorem dX7_init_59 : decode cX7_init 59 = .ok (.newarray .int, 2) := by decide +kernel
theorem dX7_init_61 : decode cX7_init 61 = .ok (.putfield 33, 3) := by decide +kernel
theorem dX7_init_64 : decode cX7_init 64 = .ok (.aload_n 0, 1) := by decide +kernel
theorem dX7_init_65 : decode cX7_init 65 = .ok (.bipush 96, 2) := by decide +kernel
theorem dX7_init_67 : decode cX7_init 67 = .ok (.newarray .int, 2) := by decide +kernel
theorem dX7_init_69 : decode cX7_init 69 = .ok (.putfield 36, 3) := by decide +kernel
theorem dX7_init_72 : decode cX7_init 72 = .ok (.aload_n 0, 1) := by decide +kernel
theorem dX7_init_73 : decode cX7_init 73 = .ok (.bipush 96, 2) := by decide +kernel
theorem dX7_init_75 : decode cX7_init 75 = .ok (.newarray .int, 2) := by decide +kernel
theorem dX7_init_77 : decode cX7_init 77 = .ok (.putfield 39, 3) := by decide +kernel
theorem dX7_init_80 : decode cX7_init 80 = .ok (.aload_n 0, 1) := by decide +kernel
theorem dX7_init_81 : decode cX7_init 81 = .ok (.sipush 1600, 3) := by decide +kernel
theorem dX7_init_84 : decode cX7_init 84 = .ok (.newarray .int, 2) := by decide +kernel
theorem dX7_init_86 : decode cX7_init 86 = .ok (.putfield 42, 3) := by decide +kernel
theorem dX7_init_89 : decode cX7_init 89 = .ok (.aload_n 0, 1) := by decide +kernel
theorem dX7_init_90 : decode cX7_init 90 = .ok (.sipush 1600, 3) := by decide +kernel
theorem dX7_init_93 : decode cX7_init 93 = .ok (.newarray .int, 2) := by decide +kernel
theorem dX7_init_95 : decode cX7_init 95 = .ok (.putfield 45, 3) := by decide +kernel
theorem dX7_init_98 : decode cX7_init 98 = .ok (.aload_n 0, 1) := by decide +kernel
theorem dX7_init_99 : decode cX7_init 99 = .ok (.bipush 40, 2) := by decide +kernel
theorem dX7_init_101 : decode cX7_init 101 = .ok (.newarray .int, 2) := by decide +kernel
theorem dX7_init_103 : decode cX7_init 103 = .ok (.putfield 48, 3) := by decide +kernel
theorem dX7_init_106 : decode cX7_init 106 = .ok (.aload_n 0, 1) := by decide +kernel
theorem dX7_init_107 : decode cX7_init 107 = .ok (.bipush 41, 2) := by decide +kernel
theorem dX7_init_109 : decode cX7_init 109 = .ok (.newarray .int, 2) := by decide +kernel
theorem dX7_init_111 : decode cX7_init 111 = .ok (.putfield 51, 3) := by decide +kernel
theorem dX7_init_114 : decode cX7_init 114 = .ok (.aload_n 0, 1) := by decide +kernel
theorem dX7_init_115 : decode cX7_init 115 = .ok (.bipush 80, 2) := by decide +kernel
theorem dX7_init_117 : decode cX7_init 117 = .ok (.newarray .int, 2) := by decide +kernel
theorem dX7_init_119 : decode cX7_init 119 = .ok (.putfield 54, 3) := by decide +kernel
theorem dX7_init_122 : decode cX7_init 122 = .ok (.aload_n 0, 1) := by decide +kernel
theorem dX7_init_123 : decode cX7_init 123 = .ok (.bipush 80, 2) := by decide +kernel
theorem dX7_init_125 : decode cX7_init 125 = .ok (.newarray .int, 2) := by decide +kernel
theorem dX7_init_127 : decode cX7_init 127 = .ok (.putfield 57, 3) := by decide +kernel
theorem dX7_init_130 : decode cX7_init 130 = .ok (.aload_n 0, 1) := by decide +kernel
theorem dX7_init_131 : decode cX7_init 131 = .ok (.bipush 24, 2) := by decide +kernel
theorem dX7_init_133 : decode cX7_init 133 = .ok (.newarray .int, 2) := by decide +kernel
theorem dX7_init_135 : decode cX7_init 135 = .ok (.putfield 60, 3) := by decide +kernel
theorem dX7_init_138 : decode cX7_init 138 = .ok (.aload_n 0, 1) := by decide +kernel
theorem dX7_init_139 : decode cX7_init 139 = .ok (.bipush 24, 2) := by decide +kernel
theorem dX7_init_141 : decode cX7_init 141 = .ok (.newarray .int, 2) := by decide +kernel
theorem dX7_init_143 : decode cX7_init 143 = .ok (.putfield 63, 3) := by decide +kernel
theorem dX7_init_146 : decode cX7_init 146 = .ok (.aload_n 0, 1) := by decide +kernel
theorem dX7_init_147 : decode cX7_init 147 = .ok (.bipush 24, 2) := by decide +kernel
theorem dX7_init_149 : decode cX7_init 149 = .ok (.newarray .int, 2) := by decide +kernel
theorem dX7_init_151 : decode cX7_init 151 = .ok (.putfield 66, 3) := by decide +kernel
theorem dX7_init_154 : decode cX7_init 154 = .ok (.aload_n 0, 1) := by decide +kernel
theorem dX7_init_155 : decode cX7_init 155 = .ok (.bipush 24, 2) := by decide +kernel
theorem dX7_init_157 : decode cX7_init 157 = .ok (.newarray .int, 2) := by decide +kernel
theorem dX7_init_159 : decode cX7_init 159 = .ok (.putfield 69, 3) := by decide +kernel
theorem dX7_init_162 : decode cX7_init 162 = .ok (.aload_n 0, 1) := by decide +kernel
theorem dX7_init_163 : decode cX7_init 163 = .ok (.sipush 400, 3) := by decide +kernel
theorem dX7_init_166 : decode cX7_init 166 = .ok (.newarray .int, 2) := by decide +kernel
theorem dX7_init_168 : decode cX7_init 168 = .ok (.putfield 72, 3) := by decide +kernel
theorem dX7_init_171 : decode cX7_init 171 = .ok (.aload_n 0, 1) := by decide +kernel
theorem dX7_init_172 : decode cX7_init 172 = .ok (.sipush 400, 3) := by decide +kernel
theorem dX7_init_175 : decode cX7_init 175 = .ok (.newarray .int, 2) := by decide +kernel
theorem dX7_init_177 : decode cX7_init 177 = .ok (.putfield 75, 3) := by decide +kernel
theorem dX7_init_180 : decode cX7_init 180 = .ok (.aload_n 0, 1) := by decide +kernel
theorem dX7_init_181 : decode cX7_init 181 = .ok (.bipush 12, 2) := by decide +kernel
theorem dX7_init_183 : decode cX7_init 183 = .ok (.newarray .int, 2) := by decide +kernel
theorem dX7_init_185 : decode cX7_init 185 = .ok (.putfield 78, 3) := by decide +kernel
theorem dX7_init_188 : decode cX7_init 188 = .ok (.aload_n 0, 1) := by decide +kernel
theorem dX7_init_189 : decode cX7_init 189 = .ok (.sipush 200, 3) := by decide +kernel
theorem dX7_init_192 : decode cX7_init 192 = .ok (.newarray .long, 2) := by decide +kernel
theorem dX7_init_194 : decode cX7_init 194 = .ok (.putfield 81, 3) := by decide +kernel
theorem dX7_init_197 : decode cX7_init 197 = .ok (.aload_n 0, 1) := by decide +kernel
theorem dX7_init_198 : decode cX7_init 198 = .ok (.iconst 4, 1) := by decide +kernel
theorem dX7_init_199 : decode cX7_init 199 = .ok (.newarray .int, 2) := by decide +kernel
theorem dX7_init_201 : decode cX7_init 201 = .ok (.putfield 85, 3) := by decide +kernel
theorem dX7_init_204 : decode cX7_init 204 = .ok (.aload_n 0, 1) := by decide +kernel
theorem dX7_init_205 : decode cX7_init 205 = .ok (.bipush 9, 2) := by decide +kernel
theorem dX7_init_207 : decode cX7_init 207 = .ok (.newarray .int, 2) := by decide +kernel
theorem dX7_init_209 : decode cX7_init 209 = .ok (.putfield 88, 3) := by decide +kernel
theorem dX7_init_212 : decode cX7_init 212 = .ok (.aload_n 0, 1) := by decide +kernel
theorem dX7_init_213 : decode cX7_init 213 = .ok (.bipush 6, 2) := by decide +kernel
theorem dX7_init_215 : decode cX7_init 215 = .ok (.newarray .int, 2) := by decide +kernel
theorem dX7_init_217 : decode cX7_init 217 = .ok (.putfield 91, 3) := by decide +kernel
theorem dX7_init_220 : decode cX7_init 220 = .ok (.aload_n 0, 1) := by decide +kernel
theorem dX7_init_221 : decode cX7_init 221 = .ok (.bipush 6, 2) := by decide +kernel
theorem dX7_init_223 : decode cX7_init 223 = .ok (.newarray .int, 2) := by decide +kernel
theorem dX7_init_225 : decode cX7_init 225 = .ok (.putfield 94, 3) := by decide +kernel
theorem dX7_init_228 : decode cX7_init 228 = .ok (.aload_n 0, 1) := by decide +kernel
theorem dX7_init_229 : decode cX7_init 229 = .ok (.bipush 6, 2) := by decide +kernel
theorem dX7_init_231 : decode cX7_init 231 = .ok (.newarray .int, 2) := by decide +kernel
theorem dX7_init_233 : decode cX7_init 233 = .ok (.putfield 97, 3) := by decide +kernel
theorem dX7_init_236 : decode cX7_init 236 = .ok (.aload_n 0, 1) := by decide +kernel
theorem dX7_init_237 : decode cX7_init 237 = .ok (.iconst 4, 1) := by decide +kernel
theorem dX7_init_238 : decode cX7_init 238 = .ok (.newarray .int, 2) := by decide +kernel
theorem dX7_init_240 : decode cX7_init 240 = .ok (.putfield 100, 3) := by decide +kernel
theorem dX7_init_243 : decode cX7_init 243 = .ok (.aload_n 0, 1) := by decide +kernel
theorem dX7_init_244 : decode cX7_init 244 = .ok (.iconst 4, 1) := by decide +kernel
theorem dX7_init_245 : decode cX7_init 245 = .ok (.newarray .int, 2) := by decide +kernel
theorem dX7_init_247 : decode cX7_init 247 = .ok (.putfield 103, 3) := by decide +kernel
theorem dX7_init_250 : decode cX7_init 250 = .ok (.aload_n 0, 1) := by decide +kernel
theorem dX7_init_251 : decode cX7_init 251 = .ok (.getfield 7, 3) := by decide +kernel
theorem dX7_init_254 : decode cX7_init 254 = .ok (.iconst 2, 1) := by decide +kernel
theorem dX7_init_255 : decode cX7_init 255 = .ok (.iconst (-1), 1) := by decide +kernel
theorem dX7_init_256 : decode cX7_init 256 = .ok (.iastore, 1) := by decide +kernel
theorem dX7_init_257 : decode cX7_init 257 = .ok (.aload_n 0, 1) := by decide +kernel
theorem dX7_init_258 : decode cX7_init 258 = .ok (.getfield 7, 3) := by decide +kernel
theorem dX7_init_261 : decode cX7_init 261 = .ok (.sipush 464, 3) := by decide +kernel
theorem dX7_init_264 : decode cX7_init 264 = .ok (.iconst 3, 1) := by decide +kernel
theorem dX7_init_265 : decode cX7_init 265 = .ok (.iastore, 1) := by decide +kernel
theorem dX7_init_266 : decode cX7_init 266 = .ok (.iconst 0, 1) := by decide +kernel
theorem dX7_init_267 : decode cX7_init 267 = .ok (.istore_n 1, 1) := by decide +kernel
theorem dX7_init_268 : decode cX7_init 268 = .ok (.iload_n 1, 1) := by decide +kernel
theorem dX7_init_269 : decode cX7_init 269 = .ok (.bipush 9, 2) := by decide +kernel
theorem dX7_init_271 : decode cX7_init 271 = .ok (.if_icmp .ge 19, 3) := by decide +kernel
theorem dX7_init_274 : decode cX7_init 274 = .ok (.aload_n 0, 1) := by decide +kernel
theorem dX7_init_275 : decode cX7_init 275 = .ok (.getfield 7, 3) := by decide +kernel
theorem dX7_init_278 : decode cX7_init 278 = .ok (.bipush 114, 2) := by decide +kernel
theorem dX7_init_280 : decode cX7_init 280 = .ok (.iload_n 1, 1) := by decide +kernel
theorem dX7_init_281 : decode cX7_init 281 = .ok (.iadd, 1) := by decide +kernel
theorem dX7_init_282 : decode cX7_init 282 = .ok (.iconst 2, 1) := by decide +kernel
theorem dX7_init_283 : decode cX7_init 283 = .ok (.iastore, 1) := by decide +kernel
theorem dX7_init_284 : decode cX7_init 284 = .ok (.iinc 1 1, 3) := by decide +kernel
theorem dX7_init_287 : decode cX7_init 287 = .ok (.goto (-19), 3) := by decide +kernel
theorem dX7_init_290 : decode cX7_init 290 = .ok (.aload_n 0, 1) := by decide +kernel
theorem dX7_init_291 : decode cX7_init 291 = .ok (.iconst 1, 1) := by decide +kernel
theorem dX7_init_292 : decode cX7_init 292 = .ok (.invokevirtual 106, 3) := by decide +kernel
theorem dX7_init_295 : decode cX7_init 295 = .ok (.return_, 1) := by decide +kernel
theorem dX7_in_0 : decode cX7_in 0 = .ok (.iload_n 0, 1) := by decide +kernel
theorem dX7_in_1 : decode cX7_in 1 = .ok (.iload_n 1, 1) := by decide +kernel
theorem dX7_in_2 : decode cX7_in 2 = .ok (.if_icmp .lt 12, 3) := by decide +kernel
theorem dX7_in_5 : decode cX7_in 5 = .ok (.iload_n 0, 1) := by decide +kernel
theorem dX7_in_6 : decode cX7_in 6 = .ok (.iload_n 2, 1) := by decide +kernel
theorem dX7_in_7 : decode cX7_in 7 = .ok (.if_icmp .gt 7, 3) := by decide +kernel
theorem dX7_in_10 : decode cX7_in 10 = .ok (.iconst 1, 1) := by decide +kernel
theorem dX7_in_11 : decode cX7_in 11 = .ok (.goto 4, 3) := by decide +kernel
theorem dX7_in_14 : decode cX7_in 14 = .ok (.iconst 0, 1) := by decide +kernel
theorem dX7_in_15 : decode cX7_in 15 = .ok (.ireturn, 1) := by decide +kernel
theorem dX7_copies_0 : decode cX7_copies 0 = .ok (.iconst 0, 1) := by decide +kernel
theorem dX7_copies_1 : decode cX7_copies 1 = .ok (.istore_n 2, 1) := by decide +kernel
theorem dX7_copies_2 : decode cX7_copies 2 = .ok (.iload_n 2, 1) := by decide +kernel
theorem dX7_copies_3 : decode cX7_copies 3 = .ok (.sipush 11120, 3) := by decide +kernel
theorem dX7_copies_6 : decode cX7_copies 6 = .ok (.if_icmp .ge 40, 3) := by decide +kernel
theorem dX7_copies_9 : decode cX7_copies 9 = .ok (.iload_n 1, 1) := by decide +kernel
theorem dX7_copies_10 : decode cX7_copies 10 = .ok (.ifCond .eq 18, 3) := by decide +kernel
theorem dX7_copies_13 : decode cX7_copies 13 = .ok (.aload_n 0, 1) := by decide +kernel
theorem dX7_copies_14 : decode cX7_copies 14 = .ok (.getfield 13, 3) := by decide +kernel
theorem dX7_copies_17 : decode cX7_copies 17 = .ok (.iload_n 2, 1) := by decide +kernel
theorem dX7_copies_18 : decode cX7_copies 18 = .ok (.aload_n 0, 1) := by decide +kernel
theorem dX7_copies_19 : decode cX7_copies 19 = .ok (.getfield 7, 3) := by decide +kernel
theorem dX7_copies_22 : decode cX7_copies 22 = .ok (.iload_n 2, 1) := by decide +kernel
theorem dX7_copies_23 : decode cX7_copies 23 = .ok (.iaload, 1) := by decide +kernel
theorem dX7_copies_24 : decode cX7_copies 24 = .ok (.iastore, 1) := by decide +kernel
theorem dX7_copies_25 : decode cX7_copies 25 = .ok (.goto 15, 3) := by decide +kernel
theorem dX7_copies_28 : decode cX7_copies 28 = .ok (.aload_n 0, 1) := by decide +kernel
theorem dX7_copies_29 : decode cX7_copies 29 = .ok (.getfield 7, 3) := by decide +kernel
theorem dX7_copies_32 : decode cX7_copies 32 = .ok (.iload_n 2, 1) := by decide +kernel
theorem dX7_copies_33 : decode cX7_copies 33 = .ok (.aload_n 0, 1) := by decide +kernel
theorem dX7_copies_34 : decode cX7_copies 34 = .ok (.getfield 13, 3) := by decide +kernel
theorem dX7_copies_37 : decode cX7_copies 37 = .ok (.iload_n 2, 1) := by decide +kernel
theorem dX7_copies_38 : decode cX7_copies 38 = .ok (.iaload, 1) := by decide +kernel
theorem dX7_copies_39 : decode cX7_copies 39 = .ok (.iastore, 1) := by decide +kernel
theorem dX7_copies_40 : decode cX7_copies 40 = .ok (.iinc 2 1, 3) := by decide +kernel
theorem dX7_copies_43 : decode cX7_copies 43 = .ok (.goto (-41), 3) := by decide +kernel
theorem dX7_copies_46 : decode cX7_copies 46 = .ok (.return_, 1) := by decide +kernel
theorem dX7_isEater_0 : decode cX7_isEater 0 = .ok (.iload_n 1, 1) := by decide +kernel
theorem dX7_isEater_1 : decode cX7_isEater 1 = .ok (.iconst 0, 1) := by decide +kernel
theorem dX7_isEater_2 : decode cX7_isEater 2 = .ok (.aload_n 0, 1) := by decide +kernel
theorem dX7_isEater_3 : decode cX7_isEater 3 = .ok (.getfield 7, 3) := by decide +kernel
theorem dX7_isEater_6 : decode cX7_isEater 6 = .ok (.iconst 0, 1) := by decide +kernel
theorem dX7_isEater_7 : decode cX7_isEater 7 = .ok (.iaload, 1) := by decide +kernel
theorem dX7_isEater_8 : decode cX7_isEater 8 = .ok (.iconst 1, 1) := by decide +kernel
theorem dX7_isEater_9 : decode cX7_isEater 9 = .ok (.isub, 1) := by decide +kernel
theorem dX7_isEater_10 : decode cX7_isEater 10 = .ok (.invokestatic 110, 3) := by decide +kernel
theorem dX7_isEater_13 : decode cX7_isEater 13 = .ok (.ireturn, 1) := by decide +kernel
theorem dX7_isOne_0 : decode cX7_isOne 0 = .ok (.iload_n 0, 1) := by decide +kernel
theorem dX7_isOne_1 : decode cX7_isOne 1 = .ok (.ifCond .eq 8, 3) := by decide +kernel
theorem dX7_isOne_4 : decode cX7_isOne 4 = .ok (.iload_n 0, 1) := by decide +kernel
theorem dX7_isOne_5 : decode cX7_isOne 5 = .ok (.iconst 1, 1) := by decide +kernel
theorem dX7_isOne_6 : decode cX7_isOne 6 = .ok (.if_icmp .ne 7, 3) := by decide +kernel
theorem dX7_isOne_9 : decode cX7_isOne 9 = .ok (.iconst 1, 1) := by decide +kernel
theorem dX7_isOne_10 : decode cX7_isOne 10 = .ok (.goto 4, 3) := by decide +kernel
theorem dX7_isOne_13 : decode cX7_isOne 13 = .ok (.iconst 0, 1) := by decide +kernel
theorem dX7_isOne_14 : decode cX7_isOne 14 = .ok (.ireturn, 1) := by decide +kernel
theorem dX7_pot_0 : decode cX7_pot 0 = .ok (.iload_n 1, 1) := by decide +kernel
theorem dX7_pot_1 : decode cX7_pot 1 = .ok (.invokestatic 114, 3) := by decide +kernel
theorem dX7_pot_4 : decode cX7_pot 4 = .ok (.ifCond .eq 21, 3) := by decide +kernel
theorem dX7_pot_7 : decode cX7_pot 7 = .ok (.iload_n 2, 1) := by decide +kernel
theorem dX7_pot_8 : decode cX7_pot 8 = .ok (.invokestatic 114, 3) := by decide +kernel
theorem dX7_pot_11 : decode cX7_pot 11 = .ok (.ifCond .eq 14, 3) := by decide +kernel
theorem dX7_pot_14 : decode cX7_pot 14 = .ok (.iload_n 3, 1) := by decide +kernel
theorem dX7_pot_15 : decode cX7_pot 15 = .ok (.iconst 0, 1) := by decide +kernel
theorem dX7_pot_16 : decode cX7_pot 16 = .ok (.sipush 999, 3) := by decide +kernel
theorem dX7_pot_19 : decode cX7_pot 19 = .ok (.invokestatic 110, 3) := by decide +kernel
theorem dX7_pot_22 : decode cX7_pot 22 = .ok (.ifCond .ne 5, 3) := by decide +kernel
theorem dX7_pot_25 : decode cX7_pot 25 = .ok (.iconst 0, 1) := by decide +kernel
theorem dX7_pot_26 : decode cX7_pot 26 = .ok (.ireturn, 1) := by decide +kernel
theorem dX7_pot_27 : decode cX7_pot 27 = .ok (.aload_n 0, 1) := by decide +kernel
theorem dX7_pot_28 : decode cX7_pot 28 = .ok (.getfield 7, 3) := by decide +kernel
theorem dX7_pot_31 : decode cX7_pot 31 = .ok (.bipush 110, 2) := by decide +kernel
theorem dX7_pot_33 : decode cX7_pot 33 = .ok (.iconst 2, 1) := by decide +kernel
theorem dX7_pot_34 : decode cX7_pot 34 = .ok (.iload_n 1, 1) := by decide +kernel
theorem dX7_pot_35 : decode cX7_pot 35 = .ok (.imul, 1) := by decide +kernel
theorem dX7_pot_36 : decode cX7_pot 36 = .ok (.iadd, 1) := by decide +kernel
theorem dX7_pot_37 : decode cX7_pot 37 = .ok (.iload_n 2, 1) := by decide +kernel
theorem dX7_pot_38 : decode cX7_pot 38 = .ok (.iadd, 1) := by decide +kernel
theorem dX7_pot_39 : decode cX7_pot 39 = .ok (.iload_n 3, 1) := by decide +kernel
theorem dX7_pot_40 : decode cX7_pot 40 = .ok (.iastore, 1) := by decide +kernel
theorem dX7_pot_41 : decode cX7_pot 41 = .ok (.iconst 1, 1) := by decide +kernel
theorem dX7_pot_42 : decode cX7_pot 42 = .ok (.ireturn, 1) := by decide +kernel
theorem dX7_eater_0 : decode cX7_eater 0 = .ok (.aload_n 0, 1) := by decide +kernel
theorem dX7_eater_1 : decode cX7_eater 1 = .ok (.getfield 7, 3) := by decide +kernel
theorem dX7_eater_4 : decode cX7_eater 4 = .ok (.iconst 0, 1) := by decide +kernel
theorem dX7_eater_5 : decode cX7_eater 5 = .ok (.iaload, 1) := by decide +kernel
theorem dX7_eater_6 : decode cX7_eater 6 = .ok (.istore 4, 2) := by decide +kernel
theorem dX7_eater_8 : decode cX7_eater 8 = .ok (.iload_n 1, 1) := by decide +kernel
theorem dX7_eater_9 : decode cX7_eater 9 = .ok (.iconst 0, 1) := by decide +kernel
theorem dX7_eater_10 : decode cX7_eater 10 = .ok (.bipush 9, 2) := by decide +kernel
theorem dX7_eater_12 : decode cX7_eater 12 = .ok (.invokestatic 110, 3) := by decide +kernel
theorem dX7_eater_15 : decode cX7_eater 15 = .ok (.ifCond .eq 30, 3) := by decide +kernel
theorem dX7_eater_18 : decode cX7_eater 18 = .ok (.iload_n 2, 1) := by decide +kernel
theorem dX7_eater_19 : decode cX7_eater 19 = .ok (.iconst 1, 1) := by decide +kernel
theorem dX7_eater_20 : decode cX7_eater 20 = .ok (.bipush 9, 2) := by decide +kernel
theorem dX7_eater_22 : decode cX7_eater 22 = .ok (.invokestatic 110, 3) := by decide +kernel
theorem dX7_eater_25 : decode cX7_eater 25 = .ok (.ifCond .eq 20, 3) := by decide +kernel
theorem dX7_eater_28 : decode cX7_eater 28 = .ok (.iload_n 3, 1) := by decide +kernel
theorem dX7_eater_29 : decode cX7_eater 29 = .ok (.iconst 0, 1) := by decide +kernel
theorem dX7_eater_30 : decode cX7_eater 30 = .ok (.bipush 99, 2) := by decide +kernel
theorem dX7_eater_32 : decode cX7_eater 32 = .ok (.invokestatic 110, 3) := by decide +kernel
theorem dX7_eater_35 : decode cX7_eater 35 = .ok (.ifCond .eq 10, 3) := by decide +kernel
theorem dX7_eater_38 : decode cX7_eater 38 = .ok (.iload 4, 2) := by decide +kernel
theorem dX7_eater_40 : decode cX7_eater 40 = .ok (.bipush 9, 2) := by decide +kernel
theorem dX7_eater_42 : decode cX7_eater 42 = .ok (.if_icmp .ne 5, 3) := by decide +kernel
theorem dX7_eater_45 : decode cX7_eater 45 = .ok (.iconst (-1), 1) := by decide +kernel
theorem dX7_eater_46 : decode cX7_eater 46 = .ok (.ireturn, 1) := by decide +kernel
theorem dX7_eater_47 : decode cX7_eater 47 = .ok (.aload_n 0, 1) := by decide +kernel
theorem dX7_eater_48 : decode cX7_eater 48 = .ok (.getfield 7, 3) := by decide +kernel
theorem dX7_eater_51 : decode cX7_eater 51 = .ok (.bipush 10, 2) := by decide +kernel
theorem dX7_eater_53 : decode cX7_eater 53 = .ok (.iconst 3, 1) := by decide +kernel
theorem dX7_eater_54 : decode cX7_eater 54 = .ok (.iload 4, 2) := by decide +kernel
theorem dX7_eater_56 : decode cX7_eater 56 = .ok (.imul, 1) := by decide +kernel
theorem dX7_eater_57 : decode cX7_eater 57 = .ok (.iadd, 1) := by decide +kernel
theorem dX7_eater_58 : decode cX7_eater 58 = .ok (.iload_n 1, 1) := by decide +kernel
theorem dX7_eater_59 : decode cX7_eater 59 = .ok (.iastore, 1) := by decide +kernel
theorem dX7_eater_60 : decode cX7_eater 60 = .ok (.aload_n 0, 1) := by decide +kernel
theorem dX7_eater_61 : decode cX7_eater 61 = .ok (.getfield 7, 3) := by decide +kernel
theorem dX7_eater_64 : decode cX7_eater 64 = .ok (.bipush 10, 2) := by decide +kernel
theorem dX7_eater_66 : decode cX7_eater 66 = .ok (.iconst 3, 1) := by decide +kernel
theorem dX7_eater_67 : decode cX7_eater 67 = .ok (.iload 4, 2) := by decide +kernel
theorem dX7_eater_69 : decode cX7_eater 69 = .ok (.imul, 1) := by decide +kernel
theorem dX7_eater_70 : decode cX7_eater 70 = .ok (.iadd, 1) := by decide +kernel
theorem dX7_eater_71 : decode cX7_eater 71 = .ok (.iconst 1, 1) := by decide +kernel
theorem dX7_eater_72 : decode cX7_eater 72 = .ok (.iadd, 1) := by decide +kernel
theorem dX7_eater_73 : decode cX7_eater 73 = .ok (.iload_n 2, 1) := by decide +kernel
theorem dX7_eater_74 : decode cX7_eater 74 = .ok (.iastore, 1) := by decide +kernel
theorem dX7_eater_75 : decode cX7_eater 75 = .ok (.aload_n 0, 1) := by decide +kernel
theorem dX7_eater_76 : decode cX7_eater 76 = .ok (.getfield 7, 3) := by decide +kernel
theorem dX7_eater_79 : decode cX7_eater 79 = .ok (.bipush 10, 2) := by decide +kernel
theorem dX7_eater_81 : decode cX7_eater 81 = .ok (.iconst 3, 1) := by decide +kernel
theorem dX7_eater_82 : decode cX7_eater 82 = .ok (.iload 4, 2) := by decide +kernel
theorem dX7_eater_84 : decode cX7_eater 84 = .ok (.imul, 1) := by decide +kernel
theorem dX7_eater_85 : decode cX7_eater 85 = .ok (.iadd, 1) := by decide +kernel
theorem dX7_eater_86 : decode cX7_eater 86 = .ok (.iconst 2, 1) := by decide +kernel
theorem dX7_eater_87 : decode cX7_eater 87 = .ok (.iadd, 1) := by decide +kernel
theorem dX7_eater_88 : decode cX7_eater 88 = .ok (.iload_n 3, 1) := by decide +kernel
theorem dX7_eater_89 : decode cX7_eater 89 = .ok (.iastore, 1) := by decide +kernel
theorem dX7_eater_90 : decode cX7_eater 90 = .ok (.iconst 0, 1) := by decide +kernel
theorem dX7_eater_91 : decode cX7_eater 91 = .ok (.istore 5, 2) := by decide +kernel
theorem dX7_eater_93 : decode cX7_eater 93 = .ok (.iload 5, 2) := by decide +kernel
theorem dX7_eater_95 : decode cX7_eater 95 = .ok (.aload_n 0, 1) := by decide +kernel
theorem dX7_eater_96 : decode cX7_eater 96 = .ok (.getfield 7, 3) := by decide +kernel
theorem dX7_eater_99 : decode cX7_eater 99 = .ok (.iconst 3, 1) := by decide +kernel
theorem dX7_eater_100 : decode cX7_eater 100 = .ok (.iaload, 1) := by decide +kernel
theorem dX7_eater_101 : decode cX7_eater 101 = .ok (.if_icmp .ge 34, 3) := by decide +kernel
theorem dX7_eater_104 : decode cX7_eater 104 = .ok (.aload_n 0, 1) := by decide +kernel
theorem dX7_eater_105 : decode cX7_eater 105 = .ok (.getfield 7, 3) := by decide +kernel
theorem dX7_eater_108 : decode cX7_eater 108 = .ok (.sipush 470, 3) := by decide +kernel
theorem dX7_eater_111 : decode cX7_eater 111 = .ok (.sipush 355, 3) := by decide +kernel
theorem dX7_eater_114 : decode cX7_eater 114 = .ok (.iload 5, 2) := by decide +kernel
theorem dX7_eater_116 : decode cX7_eater 116 = .ok (.imul, 1) := by decide +kernel
theorem dX7_eater_117 : decode cX7_eater 117 = .ok (.iadd, 1) := by decide +kernel
theorem dX7_eater_118 : decode cX7_eater 118 = .ok (.bipush 114, 2) := by decide +kernel
theorem dX7_eater_120 : decode cX7_eater 120 = .ok (.iadd, 1) := by decide +kernel
theorem dX7_eater_121 : decode cX7_eater 121 = .ok (.bipush 110, 2) := by decide +kernel
theorem dX7_eater_123 : decode cX7_eater 123 = .ok (.isub, 1) := by decide +kernel
theorem dX7_eater_124 : decode cX7_eater 124 = .ok (.iload 4, 2) := by decide +kernel
theorem dX7_eater_126 : decode cX7_eater 126 = .ok (.iadd, 1) := by decide +kernel
theorem dX7_eater_127 : decode cX7_eater 127 = .ok (.iconst 2, 1) := by decide +kernel
theorem dX7_eater_128 : decode cX7_eater 128 = .ok (.iastore, 1) := by decide +kernel
theorem dX7_eater_129 : decode cX7_eater 129 = .ok (.iinc 5 1, 3) := by decide +kernel
theorem dX7_eater_132 : decode cX7_eater 132 = .ok (.goto (-39), 3) := by decide +kernel
theorem dX7_eater_135 : decode cX7_eater 135 = .ok (.aload_n 0, 1) := by decide +kernel
theorem dX7_eater_136 : decode cX7_eater 136 = .ok (.getfield 7, 3) := by decide +kernel
theorem dX7_eater_139 : decode cX7_eater 139 = .ok (.iconst 0, 1) := by decide +kernel
theorem dX7_eater_140 : decode cX7_eater 140 = .ok (.dup2, 1) := by decide +kernel
theorem dX7_eater_141 : decode cX7_eater 141 = .ok (.iaload, 1) := by decide +kernel
theorem dX7_eater_142 : decode cX7_eater 142 = .ok (.iconst 1, 1) := by decide +kernel
theorem dX7_eater_143 : decode cX7_eater 143 = .ok (.iadd, 1) := by decide +kernel
theorem dX7_eater_144 : decode cX7_eater 144 = .ok (.iastore, 1) := by decide +kernel
theorem dX7_eater_145 : decode cX7_eater 145 = .ok (.iload 4, 2) := by decide +kernel
theorem dX7_eater_147 : decode cX7_eater 147 = .ok (.ireturn, 1) := by decide +kernel
theorem dX7_seed_0 : decode cX7_seed 0 = .ok (.iload_n 1, 1) := by decide +kernel
theorem dX7_seed_1 : decode cX7_seed 1 = .ok (.iconst 0, 1) := by decide +kernel
theorem dX7_seed_2 : decode cX7_seed 2 = .ok (.sipush 9999, 3) := by decide +kernel
theorem dX7_seed_5 : decode cX7_seed 5 = .ok (.invokestatic 110, 3) := by decide +kernel
theorem dX7_seed_8 : decode cX7_seed 8 = .ok (.ifCond .ne 5, 3) := by decide +kernel
theorem dX7_seed_11 : decode cX7_seed 11 = .ok (.iconst 0, 1) := by decide +kernel
theorem dX7_seed_12 : decode cX7_seed 12 = .ok (.ireturn, 1) := by decide +kernel
theorem dX7_seed_13 : decode cX7_seed 13 = .ok (.aload_n 0, 1) := by decide +kernel
theorem dX7_seed_14 : decode cX7_seed 14 = .ok (.getfield 7, 3) := by decide +kernel
theorem dX7_seed_17 : decode cX7_seed 17 = .ok (.sipush 464, 3) := by decide +kernel
theorem dX7_seed_20 : decode cX7_seed 20 = .ok (.iload_n 1, 1) := by decide +kernel
theorem dX7_seed_21 : decode cX7_seed 21 = .ok (.iconst 5, 1) := by decide +kernel
theorem dX7_seed_22 : decode cX7_seed 22 = .ok (.imul, 1) := by decide +kernel
theorem dX7_seed_23 : decode cX7_seed 23 = .ok (.iconst 3, 1) := by decide +kernel
theorem dX7_seed_24 : decode cX7_seed 24 = .ok (.iadd, 1) := by decide +kernel
theorem dX7_seed_25 : decode cX7_seed 25 = .ok (.iastore, 1) := by decide +kernel
theorem dX7_seed_26 : decode cX7_seed 26 = .ok (.iconst 1, 1) := by decide +kernel
theorem dX7_seed_27 : decode cX7_seed 27 = .ok (.ireturn, 1) := by decide +kernel
theorem dX7_keepsStep_0 : decode cX7_keepsStep 0 = .ok (.aload_n 0, 1) := by decide +kernel
theorem dX7_keepsStep_1 : decode cX7_keepsStep 1 = .ok (.getfield 7, 3) := by decide +kernel
theorem dX7_keepsStep_4 : decode cX7_keepsStep 4 = .ok (.iconst 3, 1) := by decide +kernel
theorem dX7_keepsStep_5 : decode cX7_keepsStep 5 = .ok (.iaload, 1) := by decide +kernel
theorem dX7_keepsStep_6 : decode cX7_keepsStep 6 = .ok (.bipush 30, 2) := by decide +kernel
theorem dX7_keepsStep_8 : decode cX7_keepsStep 8 = .ok (.if_icmp .ne 44, 3) := by decide +kernel
theorem dX7_keepsStep_11 : decode cX7_keepsStep 11 = .ok (.sipush 470, 3) := by decide +kernel
theorem dX7_keepsStep_14 : decode cX7_keepsStep 14 = .ok (.istore_n 1, 1) := by decide +kernel
theorem dX7_keepsStep_15 : decode cX7_keepsStep 15 = .ok (.iload_n 1, 1) := by decide +kernel
theorem dX7_keepsStep_16 : decode cX7_keepsStep 16 = .ok (.sipush 10765, 3) := by decide +kernel
theorem dX7_keepsStep_19 : decode cX7_keepsStep 19 = .ok (.if_icmp .ge 25, 3) := by decide +kernel
theorem dX7_keepsStep_22 : decode cX7_keepsStep 22 = .ok (.aload_n 0, 1) := by decide +kernel
theorem dX7_keepsStep_23 : decode cX7_keepsStep 23 = .ok (.getfield 7, 3) := by decide +kernel
theorem dX7_keepsStep_26 : decode cX7_keepsStep 26 = .ok (.iload_n 1, 1) := by decide +kernel
theorem dX7_keepsStep_27 : decode cX7_keepsStep 27 = .ok (.aload_n 0, 1) := by decide +kernel
theorem dX7_keepsStep_28 : decode cX7_keepsStep 28 = .ok (.getfield 7, 3) := by decide +kernel
theorem dX7_keepsStep_31 : decode cX7_keepsStep 31 = .ok (.iload_n 1, 1) := by decide +kernel
theorem dX7_keepsStep_32 : decode cX7_keepsStep 32 = .ok (.sipush 355, 3) := by decide +kernel
theorem dX7_keepsStep_35 : decode cX7_keepsStep 35 = .ok (.iadd, 1) := by decide +kernel
theorem dX7_keepsStep_36 : decode cX7_keepsStep 36 = .ok (.iaload, 1) := by decide +kernel
theorem dX7_keepsStep_37 : decode cX7_keepsStep 37 = .ok (.iastore, 1) := by decide +kernel
theorem dX7_keepsStep_38 : decode cX7_keepsStep 38 = .ok (.iinc 1 1, 3) := by decide +kernel
theorem dX7_keepsStep_41 : decode cX7_keepsStep 41 = .ok (.goto (-26), 3) := by decide +kernel
theorem dX7_keepsStep_44 : decode cX7_keepsStep 44 = .ok (.aload_n 0, 1) := by decide +kernel
theorem dX7_keepsStep_45 : decode cX7_keepsStep 45 = .ok (.getfield 7, 3) := by decide +kernel
theorem dX7_keepsStep_48 : decode cX7_keepsStep 48 = .ok (.iconst 3, 1) := by decide +kernel
theorem dX7_keepsStep_49 : decode cX7_keepsStep 49 = .ok (.bipush 29, 2) := by decide +kernel
theorem dX7_keepsStep_51 : decode cX7_keepsStep 51 = .ok (.iastore, 1) := by decide +kernel
theorem dX7_keepsStep_52 : decode cX7_keepsStep 52 = .ok (.iconst 0, 1) := by decide +kernel
theorem dX7_keepsStep_53 : decode cX7_keepsStep 53 = .ok (.istore_n 1, 1) := by decide +kernel
theorem dX7_keepsStep_54 : decode cX7_keepsStep 54 = .ok (.iload_n 1, 1) := by decide +kernel
theorem dX7_keepsStep_55 : decode cX7_keepsStep 55 = .ok (.sipush 355, 3) := by decide +kernel
theorem dX7_keepsStep_58 : decode cX7_keepsStep 58 = .ok (.if_icmp .ge 39, 3) := by decide +kernel
theorem dX7_keepsStep_61 : decode cX7_keepsStep 61 = .ok (.aload_n 0, 1) := by decide +kernel
theorem dX7_keepsStep_62 : decode cX7_keepsStep 62 = .ok (.getfield 7, 3) := by decide +kernel
theorem dX7_keepsStep_65 : decode cX7_keepsStep 65 = .ok (.sipush 470, 3) := by decide +kernel
theorem dX7_keepsStep_68 : decode cX7_keepsStep 68 = .ok (.sipush 355, 3) := by decide +kernel
theorem dX7_keepsStep_71 : decode cX7_keepsStep 71 = .ok (.aload_n 0, 1) := by decide +kernel
theorem dX7_keepsStep_72 : decode cX7_keepsStep 72 = .ok (.getfield 7, 3) := by decide +kernel
theorem dX7_keepsStep_75 : decode cX7_keepsStep 75 = .ok (.iconst 3, 1) := by decide +kernel
theorem dX7_keepsStep_76 : decode cX7_keepsStep 76 = .ok (.iaload, 1) := by decide +kernel
theorem dX7_keepsStep_77 : decode cX7_keepsStep 77 = .ok (.imul, 1) := by decide +kernel
theorem dX7_keepsStep_78 : decode cX7_keepsStep 78 = .ok (.iadd, 1) := by decide +kernel
theorem dX7_keepsStep_79 : decode cX7_keepsStep 79 = .ok (.iload_n 1, 1) := by decide +kernel
theorem dX7_keepsStep_80 : decode cX7_keepsStep 80 = .ok (.iadd, 1) := by decide +kernel
theorem dX7_keepsStep_81 : decode cX7_keepsStep 81 = .ok (.aload_n 0, 1) := by decide +kernel
theorem dX7_keepsStep_82 : decode cX7_keepsStep 82 = .ok (.getfield 7, 3) := by decide +kernel
theorem dX7_keepsStep_85 : decode cX7_keepsStep 85 = .ok (.bipush 110, 2) := by decide +kernel
theorem dX7_keepsStep_87 : decode cX7_keepsStep 87 = .ok (.iload_n 1, 1) := by decide +kernel
theorem dX7_keepsStep_88 : decode cX7_keepsStep 88 = .ok (.iadd, 1) := by decide +kernel
theorem dX7_keepsStep_89 : decode cX7_keepsStep 89 = .ok (.iaload, 1) := by decide +kernel
theorem dX7_keepsStep_90 : decode cX7_keepsStep 90 = .ok (.iastore, 1) := by decide +kernel
theorem dX7_keepsStep_91 : decode cX7_keepsStep 91 = .ok (.iinc 1 1, 3) := by decide +kernel
theorem dX7_keepsStep_94 : decode cX7_keepsStep 94 = .ok (.goto (-40), 3) := by decide +kernel
theorem dX7_keepsStep_97 : decode cX7_keepsStep 97 = .ok (.aload_n 0, 1) := by decide +kernel
theorem dX7_keepsStep_98 : decode cX7_keepsStep 98 = .ok (.getfield 7, 3) := by decide +kernel
theorem dX7_keepsStep_101 : decode cX7_keepsStep 101 = .ok (.iconst 3, 1) := by decide +kernel
theorem dX7_keepsStep_102 : decode cX7_keepsStep 102 = .ok (.dup2, 1) := by decide +kernel
theorem dX7_keepsStep_103 : decode cX7_keepsStep 103 = .ok (.iaload, 1) := by decide +kernel
theorem dX7_keepsStep_104 : decode cX7_keepsStep 104 = .ok (.iconst 1, 1) := by decide +kernel
theorem dX7_keepsStep_105 : decode cX7_keepsStep 105 = .ok (.iadd, 1) := by decide +kernel
theorem dX7_keepsStep_106 : decode cX7_keepsStep 106 = .ok (.iastore, 1) := by decide +kernel
theorem dX7_keepsStep_107 : decode cX7_keepsStep 107 = .ok (.return_, 1) := by decide +kernel
theorem dX7_undo_0 : decode cX7_undo 0 = .ok (.aload_n 0, 1) := by decide +kernel
theorem dX7_undo_1 : decode cX7_undo 1 = .ok (.getfield 7, 3) := by decide +kernel
theorem dX7_undo_4 : decode cX7_undo 4 = .ok (.iconst 3, 1) := by decide +kernel
theorem dX7_undo_5 : decode cX7_undo 5 = .ok (.iaload, 1) := by decide +kernel
theorem dX7_undo_6 : decode cX7_undo 6 = .ok (.ifCond .ne 5, 3) := by decide +kernel
theorem dX7_undo_9 : decode cX7_undo 9 = .ok (.iconst (-1), 1) := by decide +kernel
theorem dX7_undo_10 : decode cX7_undo 10 = .ok (.ireturn, 1) := by decide +kernel
theorem dX7_undo_11 : decode cX7_undo 11 = .ok (.aload_n 0, 1) := by decide +kernel
theorem dX7_undo_12 : decode cX7_undo 12 = .ok (.getfield 7, 3) := by decide +kernel
theorem dX7_undo_15 : decode cX7_undo 15 = .ok (.iconst 3, 1) := by decide +kernel
theorem dX7_undo_16 : decode cX7_undo 16 = .ok (.dup2, 1) := by decide +kernel
theorem dX7_undo_17 : decode cX7_undo 17 = .ok (.iaload, 1) := by decide +kernel
theorem dX7_undo_18 : decode cX7_undo 18 = .ok (.iconst 1, 1) := by decide +kernel
theorem dX7_undo_19 : decode cX7_undo 19 = .ok (.isub, 1) := by decide +kernel
theorem dX7_undo_20 : decode cX7_undo 20 = .ok (.iastore, 1) := by decide +kernel
theorem dX7_undo_21 : decode cX7_undo 21 = .ok (.iconst 0, 1) := by decide +kernel
theorem dX7_undo_22 : decode cX7_undo 22 = .ok (.istore_n 1, 1) := by decide +kernel
theorem dX7_undo_23 : decode cX7_undo 23 = .ok (.iload_n 1, 1) := by decide +kernel
theorem dX7_undo_24 : decode cX7_undo 24 = .ok (.sipush 355, 3) := by decide +kernel
theorem dX7_undo_27 : decode cX7_undo 27 = .ok (.if_icmp .ge 39, 3) := by decide +kernel
theorem dX7_undo_30 : decode cX7_undo 30 = .ok (.aload_n 0, 1) := by decide +kernel
theorem dX7_undo_31 : decode cX7_undo 31 = .ok (.getfield 7, 3) := by decide +kernel
theorem dX7_undo_34 : decode cX7_undo 34 = .ok (.bipush 110, 2) := by decide +kernel
theorem dX7_undo_36 : decode cX7_undo 36 = .ok (.iload_n 1, 1) := by decide +kernel
theorem dX7_undo_37 : decode cX7_undo 37 = .ok (.iadd, 1) := by decide +kernel
theorem dX7_undo_38 : decode cX7_undo 38 = .ok (.aload_n 0, 1) := by decide +kernel
theorem dX7_undo_39 : decode cX7_undo 39 = .ok (.getfield 7, 3) := by decide +kernel
theorem dX7_undo_42 : decode cX7_undo 42 = .ok (.sipush 470, 3) := by decide +kernel
theorem dX7_undo_45 : decode cX7_undo 45 = .ok (.sipush 355, 3) := by decide +kernel
theorem dX7_undo_48 : decode cX7_undo 48 = .ok (.aload_n 0, 1) := by decide +kernel
theorem dX7_undo_49 : decode cX7_undo 49 = .ok (.getfield 7, 3) := by decide +kernel
theorem dX7_undo_52 : decode cX7_undo 52 = .ok (.iconst 3, 1) := by decide +kernel
theorem dX7_undo_53 : decode cX7_undo 53 = .ok (.iaload, 1) := by decide +kernel
theorem dX7_undo_54 : decode cX7_undo 54 = .ok (.imul, 1) := by decide +kernel
theorem dX7_undo_55 : decode cX7_undo 55 = .ok (.iadd, 1) := by decide +kernel
theorem dX7_undo_56 : decode cX7_undo 56 = .ok (.iload_n 1, 1) := by decide +kernel
theorem dX7_undo_57 : decode cX7_undo 57 = .ok (.iadd, 1) := by decide +kernel
theorem dX7_undo_58 : decode cX7_undo 58 = .ok (.iaload, 1) := by decide +kernel
theorem dX7_undo_59 : decode cX7_undo 59 = .ok (.iastore, 1) := by decide +kernel
theorem dX7_undo_60 : decode cX7_undo 60 = .ok (.iinc 1 1, 3) := by decide +kernel
theorem dX7_undo_63 : decode cX7_undo 63 = .ok (.goto (-40), 3) := by decide +kernel
theorem dX7_undo_66 : decode cX7_undo 66 = .ok (.aload_n 0, 1) := by decide +kernel
theorem dX7_undo_67 : decode cX7_undo 67 = .ok (.getfield 7, 3) := by decide +kernel
theorem dX7_undo_70 : decode cX7_undo 70 = .ok (.iconst 3, 1) := by decide +kernel
theorem dX7_undo_71 : decode cX7_undo 71 = .ok (.iaload, 1) := by decide +kernel
theorem dX7_undo_72 : decode cX7_undo 72 = .ok (.ireturn, 1) := by decide +kernel
theorem dX7_put_0 : decode cX7_put 0 = .ok (.bipush 24, 2) := by decide +kernel
theorem dX7_put_2 : decode cX7_put 2 = .ok (.istore_n 2, 1) := by decide +kernel
theorem dX7_put_3 : decode cX7_put 3 = .ok (.iload_n 2, 1) := by decide +kernel
theorem dX7_put_4 : decode cX7_put 4 = .ok (.ifCond .lt 34, 3) := by decide +kernel
theorem dX7_put_7 : decode cX7_put 7 = .ok (.aload_n 0, 1) := by decide +kernel
theorem dX7_put_8 : decode cX7_put 8 = .ok (.getfield 16, 3) := by decide +kernel
theorem dX7_put_11 : decode cX7_put 11 = .ok (.aload_n 0, 1) := by decide +kernel
theorem dX7_put_12 : decode cX7_put 12 = .ok (.getfield 118, 3) := by decide +kernel
theorem dX7_put_15 : decode cX7_put 15 = .ok (.iload_n 1, 1) := by decide +kernel
theorem dX7_put_16 : decode cX7_put 16 = .ok (.iload_n 2, 1) := by decide +kernel
theorem dX7_put_17 : decode cX7_put 17 = .ok (.ishr, 1) := by decide +kernel
theorem dX7_put_18 : decode cX7_put 18 = .ok (.i2b, 1) := by decide +kernel
theorem dX7_put_19 : decode cX7_put 19 = .ok (.bastore, 1) := by decide +kernel
theorem dX7_put_20 : decode cX7_put 20 = .ok (.aload_n 0, 1) := by decide +kernel
theorem dX7_put_21 : decode cX7_put 21 = .ok (.dup, 1) := by decide +kernel
theorem dX7_put_22 : decode cX7_put 22 = .ok (.getfield 118, 3) := by decide +kernel
theorem dX7_put_25 : decode cX7_put 25 = .ok (.iconst 1, 1) := by decide +kernel
theorem dX7_put_26 : decode cX7_put 26 = .ok (.iadd, 1) := by decide +kernel
theorem dX7_put_27 : decode cX7_put 27 = .ok (.putfield 118, 3) := by decide +kernel
theorem dX7_put_30 : decode cX7_put 30 = .ok (.iload_n 2, 1) := by decide +kernel
theorem dX7_put_31 : decode cX7_put 31 = .ok (.bipush 8, 2) := by decide +kernel
theorem dX7_put_33 : decode cX7_put 33 = .ok (.isub, 1) := by decide +kernel
theorem dX7_put_34 : decode cX7_put 34 = .ok (.istore_n 2, 1) := by decide +kernel
theorem dX7_put_35 : decode cX7_put 35 = .ok (.goto (-32), 3) := by decide +kernel
theorem dX7_put_38 : decode cX7_put 38 = .ok (.return_, 1) := by decide +kernel
theorem dX7_feed_0 : decode cX7_feed 0 = .ok (.aload_n 0, 1) := by decide +kernel
theorem dX7_feed_1 : decode cX7_feed 1 = .ok (.getfield 118, 3) := by decide +kernel
theorem dX7_feed_4 : decode cX7_feed 4 = .ok (.bipush 20, 2) := by decide +kernel
theorem dX7_feed_6 : decode cX7_feed 6 = .ok (.iadd, 1) := by decide +kernel
theorem dX7_feed_7 : decode cX7_feed 7 = .ok (.sipush 300, 3) := by decide +kernel
theorem dX7_feed_10 : decode cX7_feed 10 = .ok (.if_icmp .le 5, 3) := by decide +kernel
theorem dX7_feed_13 : decode cX7_feed 13 = .ok (.iconst (-1), 1) := by decide +kernel
theorem dX7_feed_14 : decode cX7_feed 14 = .ok (.ireturn, 1) := by decide +kernel
theorem dX7_feed_15 : decode cX7_feed 15 = .ok (.aload_n 0, 1) := by decide +kernel
theorem dX7_feed_16 : decode cX7_feed 16 = .ok (.iload_n 1, 1) := by decide +kernel
theorem dX7_feed_17 : decode cX7_feed 17 = .ok (.invokevirtual 121, 3) := by decide +kernel
theorem dX7_feed_20 : decode cX7_feed 20 = .ok (.aload_n 0, 1) := by decide +kernel
theorem dX7_feed_21 : decode cX7_feed 21 = .ok (.iload_n 2, 1) := by decide +kernel
theorem dX7_feed_22 : decode cX7_feed 22 = .ok (.invokevirtual 121, 3) := by decide +kernel
theorem dX7_feed_25 : decode cX7_feed 25 = .ok (.aload_n 0, 1) := by decide +kernel
theorem dX7_feed_26 : decode cX7_feed 26 = .ok (.iload_n 3, 1) := by decide +kernel
theorem dX7_feed_27 : decode cX7_feed 27 = .ok (.invokevirtual 121, 3) := by decide +kernel
theorem dX7_feed_30 : decode cX7_feed 30 = .ok (.aload_n 0, 1) := by decide +kernel
theorem dX7_feed_31 : decode cX7_feed 31 = .ok (.iload 4, 2) := by decide +kernel
theorem dX7_feed_33 : decode cX7_feed 33 = .ok (.invokevirtual 121, 3) := by decide +kernel
theorem dX7_feed_36 : decode cX7_feed 36 = .ok (.aload_n 0, 1) := by decide +kernel
theorem dX7_feed_37 : decode cX7_feed 37 = .ok (.iload 5, 2) := by decide +kernel
theorem dX7_feed_39 : decode cX7_feed 39 = .ok (.invokevirtual 121, 3) := by decide +kernel
theorem dX7_feed_42 : decode cX7_feed 42 = .ok (.aload_n 0, 1) := by decide +kernel
theorem dX7_feed_43 : decode cX7_feed 43 = .ok (.getfield 118, 3) := by decide +kernel
theorem dX7_feed_46 : decode cX7_feed 46 = .ok (.ireturn, 1) := by decide +kernel
theorem dX7_end_0 : decode cX7_end 0 = .ok (.iload_n 1, 1) := by decide +kernel
theorem dX7_end_1 : decode cX7_end 1 = .ok (.iconst 0, 1) := by decide +kernel
theorem dX7_end_2 : decode cX7_end 2 = .ok (.aload_n 0, 1) := by decide +kernel
theorem dX7_end_3 : decode cX7_end 3 = .ok (.getfield 118, 3) := by decide +kernel
theorem dX7_end_6 : decode cX7_end 6 = .ok (.invokestatic 110, 3) := by decide +kernel
theorem dX7_end_9 : decode cX7_end 9 = .ok (.ifCond .ne 5, 3) := by decide +kernel
theorem dX7_end_12 : decode cX7_end 12 = .ok (.iconst (-1), 1) := by decide +kernel
theorem dX7_end_13 : decode cX7_end 13 = .ok (.ireturn, 1) := by decide +kernel
theorem dX7_end_14 : decode cX7_end 14 = .ok (.aload_n 0, 1) := by decide +kernel
theorem dX7_end_15 : decode cX7_end 15 = .ok (.iload_n 1, 1) := by decide +kernel
theorem dX7_end_16 : decode cX7_end 16 = .ok (.putfield 118, 3) := by decide +kernel
theorem dX7_end_19 : decode cX7_end 19 = .ok (.iload_n 1, 1) := by decide +kernel
theorem dX7_end_20 : decode cX7_end 20 = .ok (.ireturn, 1) := by decide +kernel
theorem dX7_isLetter_0 : decode cX7_isLetter 0 = .ok (.iload_n 0, 1) := by decide +kernel
theorem dX7_isLetter_1 : decode cX7_isLetter 1 = .ok (.bipush 97, 2) := by decide +kernel
theorem dX7_isLetter_3 : decode cX7_isLetter 3 = .ok (.bipush 122, 2) := by decide +kernel
theorem dX7_isLetter_5 : decode cX7_isLetter 5 = .ok (.invokestatic 110, 3) := by decide +kernel
theorem dX7_isLetter_8 : decode cX7_isLetter 8 = .ok (.ifCond .ne 14, 3) := by decide +kernel
theorem dX7_isLetter_11 : decode cX7_isLetter 11 = .ok (.iload_n 0, 1) := by decide +kernel
theorem dX7_isLetter_12 : decode cX7_isLetter 12 = .ok (.bipush 65, 2) := by decide +kernel
theorem dX7_isLetter_14 : decode cX7_isLetter 14 = .ok (.bipush 90, 2) := by decide +kernel
theorem dX7_isLetter_16 : decode cX7_isLetter 16 = .ok (.invokestatic 110, 3) := by decide +kernel
theorem dX7_isLetter_19 : decode cX7_isLetter 19 = .ok (.ifCond .eq 7, 3) := by decide +kernel
theorem dX7_isLetter_22 : decode cX7_isLetter 22 = .ok (.iconst 1, 1) := by decide +kernel
theorem dX7_isLetter_23 : decode cX7_isLetter 23 = .ok (.goto 4, 3) := by decide +kernel
theorem dX7_isLetter_26 : decode cX7_isLetter 26 = .ok (.iconst 0, 1) := by decide +kernel
theorem dX7_isLetter_27 : decode cX7_isLetter 27 = .ok (.ireturn, 1) := by decide +kernel
theorem dX7_wordOf_0 : decode cX7_wordOf 0 = .ok (.lload_n 0, 1) := by decide +kernel
theorem dX7_wordOf_1 : decode cX7_wordOf 1 = .ok (.ldc2_w 125, 3) := by decide +kernel
theorem dX7_wordOf_4 : decode cX7_wordOf 4 = .ok (.lcmp, 1) := by decide +kernel
theorem dX7_wordOf_5 : decode cX7_wordOf 5 = .ok (.ifCond .ne 5, 3) := by decide +kernel
theorem dX7_wordOf_8 : decode cX7_wordOf 8 = .ok (.iconst 0, 1) := by decide +kernel
theorem dX7_wordOf_9 : decode cX7_wordOf 9 = .ok (.ireturn, 1) := by decide +kernel
theorem dX7_wordOf_10 : decode cX7_wordOf 10 = .ok (.lload_n 0, 1) := by decide +kernel
theorem dX7_wordOf_11 : decode cX7_wordOf 11 = .ok (.ldc2_w 127, 3) := by decide +kernel
theorem dX7_wordOf_14 : decode cX7_wordOf 14 = .ok (.lcmp, 1) := by decide +kernel
theorem dX7_wordOf_15 : decode cX7_wordOf 15 = .ok (.ifCond .ne 5, 3) := by decide +kernel
theorem dX7_wordOf_18 : decode cX7_wordOf 18 = .ok (.iconst 1, 1) := by decide +kernel
theorem dX7_wordOf_19 : decode cX7_wordOf 19 = .ok (.ireturn, 1) := by decide +kernel
theorem dX7_wordOf_20 : decode cX7_wordOf 20 = .ok (.lload_n 0, 1) := by decide +kernel
theorem dX7_wordOf_21 : decode cX7_wordOf 21 = .ok (.ldc2_w 129, 3) := by decide +kernel
theorem dX7_wordOf_24 : decode cX7_wordOf 24 = .ok (.lcmp, 1) := by decide +kernel
theorem dX7_wordOf_25 : decode cX7_wordOf 25 = .ok (.ifCond .ne 5, 3) := by decide +kernel
theorem dX7_wordOf_28 : decode cX7_wordOf 28 = .ok (.iconst 2, 1) := by decide +kernel
theorem dX7_wordOf_29 : decode cX7_wordOf 29 = .ok (.ireturn, 1) := by decide +kernel
theorem dX7_wordOf_30 : decode cX7_wordOf 30 = .ok (.lload_n 0, 1) := by decide +kernel
theorem dX7_wordOf_31 : decode cX7_wordOf 31 = .ok (.ldc2_w 131, 3) := by decide +kernel
theorem dX7_wordOf_34 : decode cX7_wordOf 34 = .ok (.lcmp, 1) := by decide +kernel
theorem dX7_wordOf_35 : decode cX7_wordOf 35 = .ok (.ifCond .ne 5, 3) := by decide +kernel
theorem dX7_wordOf_38 : decode cX7_wordOf 38 = .ok (.iconst 3, 1) := by decide +kernel
theorem dX7_wordOf_39 : decode cX7_wordOf 39 = .ok (.ireturn, 1) := by decide +kernel
theorem dX7_wordOf_40 : decode cX7_wordOf 40 = .ok (.lload_n 0, 1) := by decide +kernel
theorem dX7_wordOf_41 : decode cX7_wordOf 41 = .ok (.ldc2_w 133, 3) := by decide +kernel
theorem dX7_wordOf_44 : decode cX7_wordOf 44 = .ok (.lcmp, 1) := by decide +kernel
theorem dX7_wordOf_45 : decode cX7_wordOf 45 = .ok (.ifCond .ne 5, 3) := by decide +kernel
theorem dX7_wordOf_48 : decode cX7_wordOf 48 = .ok (.iconst 4, 1) := by decide +kernel
theorem dX7_wordOf_49 : decode cX7_wordOf 49 = .ok (.ireturn, 1) := by decide +kernel
theorem dX7_wordOf_50 : decode cX7_wordOf 50 = .ok (.lload_n 0, 1) := by decide +kernel
theorem dX7_wordOf_51 : decode cX7_wordOf 51 = .ok (.ldc2_w 135, 3) := by decide +kernel
theorem dX7_wordOf_54 : decode cX7_wordOf 54 = .ok (.lcmp, 1) := by decide +kernel
theorem dX7_wordOf_55 : decode cX7_wordOf 55 = .ok (.ifCond .ne 5, 3) := by decide +kernel
theorem dX7_wordOf_58 : decode cX7_wordOf 58 = .ok (.iconst 5, 1) := by decide +kernel
theorem dX7_wordOf_59 : decode cX7_wordOf 59 = .ok (.ireturn, 1) := by decide +kernel
theorem dX7_wordOf_60 : decode cX7_wordOf 60 = .ok (.lload_n 0, 1) := by decide +kernel
theorem dX7_wordOf_61 : decode cX7_wordOf 61 = .ok (.ldc2_w 137, 3) := by decide +kernel
theorem dX7_wordOf_64 : decode cX7_wordOf 64 = .ok (.lcmp, 1) := by decide +kernel
theorem dX7_wordOf_65 : decode cX7_wordOf 65 = .ok (.ifCond .ne 6, 3) := by decide +kernel
theorem dX7_wordOf_68 : decode cX7_wordOf 68 = .ok (.bipush 6, 2) := by decide +kernel
theorem dX7_wordOf_70 : decode cX7_wordOf 70 = .ok (.ireturn, 1) := by decide +kernel
theorem dX7_wordOf_71 : decode cX7_wordOf 71 = .ok (.lload_n 0, 1) := by decide +kernel
theorem dX7_wordOf_72 : decode cX7_wordOf 72 = .ok (.ldc2_w 139, 3) := by decide +kernel
theorem dX7_wordOf_75 : decode cX7_wordOf 75 = .ok (.lcmp, 1) := by decide +kernel
theorem dX7_wordOf_76 : decode cX7_wordOf 76 = .ok (.ifCond .ne 6, 3) := by decide +kernel
theorem dX7_wordOf_79 : decode cX7_wordOf 79 = .ok (.bipush 7, 2) := by decide +kernel
theorem dX7_wordOf_81 : decode cX7_wordOf 81 = .ok (.ireturn, 1) := by decide +kernel
theorem dX7_wordOf_82 : decode cX7_wordOf 82 = .ok (.lload_n 0, 1) := by decide +kernel
theorem dX7_wordOf_83 : decode cX7_wordOf 83 = .ok (.ldc2_w 141, 3) := by decide +kernel
theorem dX7_wordOf_86 : decode cX7_wordOf 86 = .ok (.lcmp, 1) := by decide +kernel
theorem dX7_wordOf_87 : decode cX7_wordOf 87 = .ok (.ifCond .ne 6, 3) := by decide +kernel
theorem dX7_wordOf_90 : decode cX7_wordOf 90 = .ok (.bipush 8, 2) := by decide +kernel
theorem dX7_wordOf_92 : decode cX7_wordOf 92 = .ok (.ireturn, 1) := by decide +kernel
theorem dX7_wordOf_93 : decode cX7_wordOf 93 = .ok (.lload_n 0, 1) := by decide +kernel
theorem dX7_wordOf_94 : decode cX7_wordOf 94 = .ok (.ldc2_w 143, 3) := by decide +kernel
theorem dX7_wordOf_97 : decode cX7_wordOf 97 = .ok (.lcmp, 1) := by decide +kernel
theorem dX7_wordOf_98 : decode cX7_wordOf 98 = .ok (.ifCond .ne 6, 3) := by decide +kernel
theorem dX7_wordOf_101 : decode cX7_wordOf 101 = .ok (.bipush 9, 2) := by decide +kernel
theorem dX7_wordOf_103 : decode cX7_wordOf 103 = .ok (.ireturn, 1) := by decide +kernel
theorem dX7_wordOf_104 : decode cX7_wordOf 104 = .ok (.lload_n 0, 1) := by decide +kernel
theorem dX7_wordOf_105 : decode cX7_wordOf 105 = .ok (.ldc2_w 145, 3) := by decide +kernel
theorem dX7_wordOf_108 : decode cX7_wordOf 108 = .ok (.lcmp, 1) := by decide +kernel
theorem dX7_wordOf_109 : decode cX7_wordOf 109 = .ok (.ifCond .ne 6, 3) := by decide +kernel
theorem dX7_wordOf_112 : decode cX7_wordOf 112 = .ok (.bipush 10, 2) := by decide +kernel
theorem dX7_wordOf_114 : decode cX7_wordOf 114 = .ok (.ireturn, 1) := by decide +kernel
theorem dX7_wordOf_115 : decode cX7_wordOf 115 = .ok (.lload_n 0, 1) := by decide +kernel
theorem dX7_wordOf_116 : decode cX7_wordOf 116 = .ok (.ldc2_w 147, 3) := by decide +kernel
theorem dX7_wordOf_119 : decode cX7_wordOf 119 = .ok (.lcmp, 1) := by decide +kernel
theorem dX7_wordOf_120 : decode cX7_wordOf 120 = .ok (.ifCond .ne 6, 3) := by decide +kernel
theorem dX7_wordOf_123 : decode cX7_wordOf 123 = .ok (.bipush 11, 2) := by decide +kernel
theorem dX7_wordOf_125 : decode cX7_wordOf 125 = .ok (.ireturn, 1) := by decide +kernel
theorem dX7_wordOf_126 : decode cX7_wordOf 126 = .ok (.lload_n 0, 1) := by decide +kernel
theorem dX7_wordOf_127 : decode cX7_wordOf 127 = .ok (.ldc2_w 149, 3) := by decide +kernel
theorem dX7_wordOf_130 : decode cX7_wordOf 130 = .ok (.lcmp, 1) := by decide +kernel
theorem dX7_wordOf_131 : decode cX7_wordOf 131 = .ok (.ifCond .ne 6, 3) := by decide +kernel
theorem dX7_wordOf_134 : decode cX7_wordOf 134 = .ok (.bipush 12, 2) := by decide +kernel
theorem dX7_wordOf_136 : decode cX7_wordOf 136 = .ok (.ireturn, 1) := by decide +kernel
theorem dX7_wordOf_137 : decode cX7_wordOf 137 = .ok (.lload_n 0, 1) := by decide +kernel
theorem dX7_wordOf_138 : decode cX7_wordOf 138 = .ok (.ldc2_w 151, 3) := by decide +kernel
theorem dX7_wordOf_141 : decode cX7_wordOf 141 = .ok (.lcmp, 1) := by decide +kernel
theorem dX7_wordOf_142 : decode cX7_wordOf 142 = .ok (.ifCond .ne 6, 3) := by decide +kernel
theorem dX7_wordOf_145 : decode cX7_wordOf 145 = .ok (.bipush 13, 2) := by decide +kernel
theorem dX7_wordOf_147 : decode cX7_wordOf 147 = .ok (.ireturn, 1) := by decide +kernel
theorem dX7_wordOf_148 : decode cX7_wordOf 148 = .ok (.lload_n 0, 1) := by decide +kernel
theorem dX7_wordOf_149 : decode cX7_wordOf 149 = .ok (.ldc2_w 153, 3) := by decide +kernel
theorem dX7_wordOf_152 : decode cX7_wordOf 152 = .ok (.lcmp, 1) := by decide +kernel
theorem dX7_wordOf_153 : decode cX7_wordOf 153 = .ok (.ifCond .ne 6, 3) := by decide +kernel
theorem dX7_wordOf_156 : decode cX7_wordOf 156 = .ok (.bipush 14, 2) := by decide +kernel
theorem dX7_wordOf_158 : decode cX7_wordOf 158 = .ok (.ireturn, 1) := by decide +kernel
theorem dX7_wordOf_159 : decode cX7_wordOf 159 = .ok (.lload_n 0, 1) := by decide +kernel
theorem dX7_wordOf_160 : decode cX7_wordOf 160 = .ok (.ldc2_w 155, 3) := by decide +kernel
theorem dX7_wordOf_163 : decode cX7_wordOf 163 = .ok (.lcmp, 1) := by decide +kernel
theorem dX7_wordOf_164 : decode cX7_wordOf 164 = .ok (.ifCond .ne 6, 3) := by decide +kernel
theorem dX7_wordOf_167 : decode cX7_wordOf 167 = .ok (.bipush 15, 2) := by decide +kernel
theorem dX7_wordOf_169 : decode cX7_wordOf 169 = .ok (.ireturn, 1) := by decide +kernel
theorem dX7_wordOf_170 : decode cX7_wordOf 170 = .ok (.lload_n 0, 1) := by decide +kernel
theorem dX7_wordOf_171 : decode cX7_wordOf 171 = .ok (.ldc2_w 157, 3) := by decide +kernel
theorem dX7_wordOf_174 : decode cX7_wordOf 174 = .ok (.lcmp, 1) := by decide +kernel
theorem dX7_wordOf_175 : decode cX7_wordOf 175 = .ok (.ifCond .ne 6, 3) := by decide +kernel
theorem dX7_wordOf_178 : decode cX7_wordOf 178 = .ok (.bipush 16, 2) := by decide +kernel
theorem dX7_wordOf_180 : decode cX7_wordOf 180 = .ok (.ireturn, 1) := by decide +kernel
theorem dX7_wordOf_181 : decode cX7_wordOf 181 = .ok (.lload_n 0, 1) := by decide +kernel
theorem dX7_wordOf_182 : decode cX7_wordOf 182 = .ok (.ldc2_w 159, 3) := by decide +kernel
theorem dX7_wordOf_185 : decode cX7_wordOf 185 = .ok (.lcmp, 1) := by decide +kernel
theorem dX7_wordOf_186 : decode cX7_wordOf 186 = .ok (.ifCond .ne 6, 3) := by decide +kernel
theorem dX7_wordOf_189 : decode cX7_wordOf 189 = .ok (.bipush 17, 2) := by decide +kernel
theorem dX7_wordOf_191 : decode cX7_wordOf 191 = .ok (.ireturn, 1) := by decide +kernel
theorem dX7_wordOf_192 : decode cX7_wordOf 192 = .ok (.lload_n 0, 1) := by decide +kernel
theorem dX7_wordOf_193 : decode cX7_wordOf 193 = .ok (.ldc2_w 161, 3) := by decide +kernel
theorem dX7_wordOf_196 : decode cX7_wordOf 196 = .ok (.lcmp, 1) := by decide +kernel
theorem dX7_wordOf_197 : decode cX7_wordOf 197 = .ok (.ifCond .ne 6, 3) := by decide +kernel
theorem dX7_wordOf_200 : decode cX7_wordOf 200 = .ok (.bipush 18, 2) := by decide +kernel
theorem dX7_wordOf_202 : decode cX7_wordOf 202 = .ok (.ireturn, 1) := by decide +kernel
theorem dX7_wordOf_203 : decode cX7_wordOf 203 = .ok (.lload_n 0, 1) := by decide +kernel
theorem dX7_wordOf_204 : decode cX7_wordOf 204 = .ok (.ldc2_w 163, 3) := by decide +kernel
theorem dX7_wordOf_207 : decode cX7_wordOf 207 = .ok (.lcmp, 1) := by decide +kernel
theorem dX7_wordOf_208 : decode cX7_wordOf 208 = .ok (.ifCond .ne 6, 3) := by decide +kernel
theorem dX7_wordOf_211 : decode cX7_wordOf 211 = .ok (.bipush 19, 2) := by decide +kernel
theorem dX7_wordOf_213 : decode cX7_wordOf 213 = .ok (.ireturn, 1) := by decide +kernel
theorem dX7_wordOf_214 : decode cX7_wordOf 214 = .ok (.lload_n 0, 1) := by decide +kernel
theorem dX7_wordOf_215 : decode cX7_wordOf 215 = .ok (.ldc2_w 165, 3) := by decide +kernel
theorem dX7_wordOf_218 : decode cX7_wordOf 218 = .ok (.lcmp, 1) := by decide +kernel
theorem dX7_wordOf_219 : decode cX7_wordOf 219 = .ok (.ifCond .ne 6, 3) := by decide +kernel
theorem dX7_wordOf_222 : decode cX7_wordOf 222 = .ok (.bipush 20, 2) := by decide +kernel
theorem dX7_wordOf_224 : decode cX7_wordOf 224 = .ok (.ireturn, 1) := by decide +kernel
theorem dX7_wordOf_225 : decode cX7_wordOf 225 = .ok (.lload_n 0, 1) := by decide +kernel
theorem dX7_wordOf_226 : decode cX7_wordOf 226 = .ok (.ldc2_w 167, 3) := by decide +kernel
theorem dX7_wordOf_229 : decode cX7_wordOf 229 = .ok (.lcmp, 1) := by decide +kernel
theorem dX7_wordOf_230 : decode cX7_wordOf 230 = .ok (.ifCond .ne 6, 3) := by decide +kernel
theorem dX7_wordOf_233 : decode cX7_wordOf 233 = .ok (.bipush 21, 2) := by decide +kernel
theorem dX7_wordOf_235 : decode cX7_wordOf 235 = .ok (.ireturn, 1) := by decide +kernel
theorem dX7_wordOf_236 : decode cX7_wordOf 236 = .ok (.lload_n 0, 1) := by decide +kernel
theorem dX7_wordOf_237 : decode cX7_wordOf 237 = .ok (.ldc2_w 169, 3) := by decide +kernel
theorem dX7_wordOf_240 : decode cX7_wordOf 240 = .ok (.lcmp, 1) := by decide +kernel
theorem dX7_wordOf_241 : decode cX7_wordOf 241 = .ok (.ifCond .ne 6, 3) := by decide +kernel
theorem dX7_wordOf_244 : decode cX7_wordOf 244 = .ok (.bipush 22, 2) := by decide +kernel
theorem dX7_wordOf_246 : decode cX7_wordOf 246 = .ok (.ireturn, 1) := by decide +kernel
theorem dX7_wordOf_247 : decode cX7_wordOf 247 = .ok (.lload_n 0, 1) := by decide +kernel
theorem dX7_wordOf_248 : decode cX7_wordOf 248 = .ok (.ldc2_w 171, 3) := by decide +kernel
theorem dX7_wordOf_251 : decode cX7_wordOf 251 = .ok (.lcmp, 1) := by decide +kernel
theorem dX7_wordOf_252 : decode cX7_wordOf 252 = .ok (.ifCond .ne 6, 3) := by decide +kernel
theorem dX7_wordOf_255 : decode cX7_wordOf 255 = .ok (.bipush 23, 2) := by decide +kernel
theorem dX7_wordOf_257 : decode cX7_wordOf 257 = .ok (.ireturn, 1) := by decide +kernel
theorem dX7_wordOf_258 : decode cX7_wordOf 258 = .ok (.iconst (-1), 1) := by decide +kernel
theorem dX7_wordOf_259 : decode cX7_wordOf 259 = .ok (.ireturn, 1) := by decide +kernel
theorem dX7_nextToken_0 : decode cX7_nextToken 0 = .ok (.aload_n 0, 1) := by decide +kernel
theorem dX7_nextToken_1 : decode cX7_nextToken 1 = .ok (.getfield 173, 3) := by decide +kernel
theorem dX7_nextToken_4 : decode cX7_nextToken 4 = .ok (.aload_n 0, 1) := by decide +kernel
theorem dX7_nextToken_5 : decode cX7_nextToken 5 = .ok (.getfield 176, 3) := by decide +kernel
theorem dX7_nextToken_8 : decode cX7_nextToken 8 = .ok (.if_icmp .ge 44, 3) := by decide +kernel
theorem dX7_nextToken_11 : decode cX7_nextToken 11 = .ok (.aload_n 0, 1) := by decide +kernel
theorem dX7_nextToken_12 : decode cX7_nextToken 12 = .ok (.getfield 16, 3) := by decide +kernel
theorem dX7_nextToken_15 : decode cX7_nextToken 15 = .ok (.aload_n 0, 1) := by decide +kernel
theorem dX7_nextToken_16 : decode cX7_nextToken 16 = .ok (.getfield 173, 3) := by decide +kernel
theorem dX7_nextToken_19 : decode cX7_nextToken 19 = .ok (.baload, 1) := by decide +kernel
theorem dX7_nextToken_20 : decode cX7_nextToken 20 = .ok (.bipush 32, 2) := by decide +kernel
theorem dX7_nextToken_22 : decode cX7_nextToken 22 = .ok (.if_icmp .eq 17, 3) := by decide +kernel
theorem dX7_nextToken_25 : decode cX7_nextToken 25 = .ok (.aload_n 0, 1) := by decide +kernel
theorem dX7_nextToken_26 : decode cX7_nextToken 26 = .ok (.getfield 16, 3) := by decide +kernel
theorem dX7_nextToken_29 : decode cX7_nextToken 29 = .ok (.aload_n 0, 1) := by decide +kernel
theorem dX7_nextToken_30 : decode cX7_nextToken 30 = .ok (.getfield 173, 3) := by decide +kernel
theorem dX7_nextToken_33 : decode cX7_nextToken 33 = .ok (.baload, 1) := by decide +kernel
theorem dX7_nextToken_34 : decode cX7_nextToken 34 = .ok (.bipush 10, 2) := by decide +kernel
theorem dX7_nextToken_36 : decode cX7_nextToken 36 = .ok (.if_icmp .ne 16, 3) := by decide +kernel
theorem dX7_nextToken_39 : decode cX7_nextToken 39 = .ok (.aload_n 0, 1) := by decide +kernel
theorem dX7_nextToken_40 : decode cX7_nextToken 40 = .ok (.dup, 1) := by decide +kernel
theorem dX7_nextToken_41 : decode cX7_nextToken 41 = .ok (.getfield 173, 3) := by decide +kernel
theorem dX7_nextToken_44 : decode cX7_nextToken 44 = .ok (.iconst 1, 1) := by decide +kernel
theorem dX7_nextToken_45 : decode cX7_nextToken 45 = .ok (.iadd, 1) := by decide +kernel
theorem dX7_nextToken_46 : decode cX7_nextToken 46 = .ok (.putfield 173, 3) := by decide +kernel
theorem dX7_nextToken_49 : decode cX7_nextToken 49 = .ok (.goto (-49), 3) := by decide +kernel
theorem dX7_nextToken_52 : decode cX7_nextToken 52 = .ok (.aload_n 0, 1) := by decide +kernel
theorem dX7_nextToken_53 : decode cX7_nextToken 53 = .ok (.aload_n 0, 1) := by decide +kernel
theorem dX7_nextToken_54 : decode cX7_nextToken 54 = .ok (.getfield 173, 3) := by decide +kernel
theorem dX7_nextToken_57 : decode cX7_nextToken 57 = .ok (.putfield 179, 3) := by decide +kernel
theorem dX7_nextToken_60 : decode cX7_nextToken 60 = .ok (.aload_n 0, 1) := by decide +kernel
theorem dX7_nextToken_61 : decode cX7_nextToken 61 = .ok (.getfield 173, 3) := by decide +kernel
theorem dX7_nextToken_64 : decode cX7_nextToken 64 = .ok (.aload_n 0, 1) := by decide +kernel
theorem dX7_nextToken_65 : decode cX7_nextToken 65 = .ok (.getfield 176, 3) := by decide +kernel
theorem dX7_nextToken_68 : decode cX7_nextToken 68 = .ok (.if_icmp .ne 9, 3) := by decide +kernel
theorem dX7_nextToken_71 : decode cX7_nextToken 71 = .ok (.aload_n 0, 1) := by decide +kernel
theorem dX7_nextToken_72 : decode cX7_nextToken 72 = .ok (.iconst 0, 1) := by decide +kernel
theorem dX7_nextToken_73 : decode cX7_nextToken 73 = .ok (.putfield 182, 3) := by decide +kernel
theorem dX7_nextToken_76 : decode cX7_nextToken 76 = .ok (.return_, 1) := by decide +kernel
theorem dX7_nextToken_77 : decode cX7_nextToken 77 = .ok (.aload_n 0, 1) := by decide +kernel
theorem dX7_nextToken_78 : decode cX7_nextToken 78 = .ok (.getfield 16, 3) := by decide +kernel
theorem dX7_nextToken_81 : decode cX7_nextToken 81 = .ok (.aload_n 0, 1) := by decide +kernel
theorem dX7_nextToken_82 : decode cX7_nextToken 82 = .ok (.getfield 173, 3) := by decide +kernel
theorem dX7_nextToken_85 : decode cX7_nextToken 85 = .ok (.baload, 1) := by decide +kernel
theorem dX7_nextToken_86 : decode cX7_nextToken 86 = .ok (.istore_n 1, 1) := by decide +kernel
theorem dX7_nextToken_87 : decode cX7_nextToken 87 = .ok (.iload_n 1, 1) := by decide +kernel
theorem dX7_nextToken_88 : decode cX7_nextToken 88 = .ok (.invokestatic 185, 3) := by decide +kernel
theorem dX7_nextToken_91 : decode cX7_nextToken 91 = .ok (.ifCond .eq 120, 3) := by decide +kernel
theorem dX7_nextToken_94 : decode cX7_nextToken 94 = .ok (.lconst 0, 1) := by decide +kernel
theorem dX7_nextToken_95 : decode cX7_nextToken 95 = .ok (.lstore_n 2, 1) := by decide +kernel
theorem dX7_nextToken_96 : decode cX7_nextToken 96 = .ok (.iconst 0, 1) := by decide +kernel
theorem dX7_nextToken_97 : decode cX7_nextToken 97 = .ok (.istore 4, 2) := by decide +kernel
theorem dX7_nextToken_99 : decode cX7_nextToken 99 = .ok (.aload_n 0, 1) := by decide +kernel
theorem dX7_nextToken_100 : decode cX7_nextToken 100 = .ok (.getfield 173, 3) := by decide +kernel
theorem dX7_nextToken_103 : decode cX7_nextToken 103 = .ok (.aload_n 0, 1) := by decide +kernel
theorem dX7_nextToken_104 : decode cX7_nextToken 104 = .ok (.getfield 176, 3) := by decide +kernel
theorem dX7_nextToken_107 : decode cX7_nextToken 107 = .ok (.if_icmp .ge 66, 3) := by decide +kernel
theorem dX7_nextToken_110 : decode cX7_nextToken 110 = .ok (.aload_n 0, 1) := by decide +kernel
theorem dX7_nextToken_111 : decode cX7_nextToken 111 = .ok (.getfield 16, 3) := by decide +kernel
theorem dX7_nextToken_114 : decode cX7_nextToken 114 = .ok (.aload_n 0, 1) := by decide +kernel
theorem dX7_nextToken_115 : decode cX7_nextToken 115 = .ok (.getfield 173, 3) := by decide +kernel
theorem dX7_nextToken_118 : decode cX7_nextToken 118 = .ok (.baload, 1) := by decide +kernel
theorem dX7_nextToken_119 : decode cX7_nextToken 119 = .ok (.invokestatic 185, 3) := by decide +kernel
theorem dX7_nextToken_122 : decode cX7_nextToken 122 = .ok (.ifCond .eq 51, 3) := by decide +kernel
theorem dX7_nextToken_125 : decode cX7_nextToken 125 = .ok (.iload 4, 2) := by decide +kernel
theorem dX7_nextToken_127 : decode cX7_nextToken 127 = .ok (.bipush 9, 2) := by decide +kernel
theorem dX7_nextToken_129 : decode cX7_nextToken 129 = .ok (.if_icmp .ge 26, 3) := by decide +kernel
theorem dX7_nextToken_132 : decode cX7_nextToken 132 = .ok (.ldc2_w 188, 3) := by decide +kernel
theorem dX7_nextToken_135 : decode cX7_nextToken 135 = .ok (.lload_n 2, 1) := by decide +kernel
theorem dX7_nextToken_136 : decode cX7_nextToken 136 = .ok (.lmul, 1) := by decide +kernel
theorem dX7_nextToken_137 : decode cX7_nextToken 137 = .ok (.aload_n 0, 1) := by decide +kernel
theorem dX7_nextToken_138 : decode cX7_nextToken 138 = .ok (.getfield 16, 3) := by decide +kernel
theorem dX7_nextToken_141 : decode cX7_nextToken 141 = .ok (.aload_n 0, 1) := by decide +kernel
theorem dX7_nextToken_142 : decode cX7_nextToken 142 = .ok (.getfield 173, 3) := by decide +kernel
theorem dX7_nextToken_145 : decode cX7_nextToken 145 = .ok (.baload, 1) := by decide +kernel
theorem dX7_nextToken_146 : decode cX7_nextToken 146 = .ok (.i2l, 1) := by decide +kernel
theorem dX7_nextToken_147 : decode cX7_nextToken 147 = .ok (.ladd, 1) := by decide +kernel
theorem dX7_nextToken_148 : decode cX7_nextToken 148 = .ok (.ldc2_w 188, 3) := by decide +kernel
theorem dX7_nextToken_151 : decode cX7_nextToken 151 = .ok (.lsub, 1) := by decide +kernel
theorem dX7_nextToken_152 : decode cX7_nextToken 152 = .ok (.goto 4, 3) := by decide +kernel
theorem dX7_nextToken_155 : decode cX7_nextToken 155 = .ok (.lload_n 2, 1) := by decide +kernel
theorem dX7_nextToken_156 : decode cX7_nextToken 156 = .ok (.lstore_n 2, 1) := by decide +kernel
theorem dX7_nextToken_157 : decode cX7_nextToken 157 = .ok (.iinc 4 1, 3) := by decide +kernel
theorem dX7_nextToken_160 : decode cX7_nextToken 160 = .ok (.aload_n 0, 1) := by decide +kernel
theorem dX7_nextToken_161 : decode cX7_nextToken 161 = .ok (.dup, 1) := by decide +kernel
theorem dX7_nextToken_162 : decode cX7_nextToken 162 = .ok (.getfield 173, 3) := by decide +kernel
theorem dX7_nextToken_165 : decode cX7_nextToken 165 = .ok (.iconst 1, 1) := by decide +kernel
theorem dX7_nextToken_166 : decode cX7_nextToken 166 = .ok (.iadd, 1) := by decide +kernel
theorem dX7_nextToken_167 : decode cX7_nextToken 167 = .ok (.putfield 173, 3) := by decide +kernel
theorem dX7_nextToken_170 : decode cX7_nextToken 170 = .ok (.goto (-71), 3) := by decide +kernel
theorem dX7_nextToken_173 : decode cX7_nextToken 173 = .ok (.aload_n 0, 1) := by decide +kernel
theorem dX7_nextToken_174 : decode cX7_nextToken 174 = .ok (.iload 4, 2) := by decide +kernel
theorem dX7_nextToken_176 : decode cX7_nextToken 176 = .ok (.bipush 8, 2) := by decide +kernel
theorem dX7_nextToken_178 : decode cX7_nextToken 178 = .ok (.if_icmp .le 7, 3) := by decide +kernel
theorem dX7_nextToken_181 : decode cX7_nextToken 181 = .ok (.iconst (-1), 1) := by decide +kernel
theorem dX7_nextToken_182 : decode cX7_nextToken 182 = .ok (.goto 7, 3) := by decide +kernel
theorem dX7_nextToken_185 : decode cX7_nextToken 185 = .ok (.lload_n 2, 1) := by decide +kernel
theorem dX7_nextToken_186 : decode cX7_nextToken 186 = .ok (.invokestatic 190, 3) := by decide +kernel
theorem dX7_nextToken_189 : decode cX7_nextToken 189 = .ok (.putfield 194, 3) := by decide +kernel
theorem dX7_nextToken_192 : decode cX7_nextToken 192 = .ok (.aload_n 0, 1) := by decide +kernel
theorem dX7_nextToken_193 : decode cX7_nextToken 193 = .ok (.aload_n 0, 1) := by decide +kernel
theorem dX7_nextToken_194 : decode cX7_nextToken 194 = .ok (.getfield 194, 3) := by decide +kernel
theorem dX7_nextToken_197 : decode cX7_nextToken 197 = .ok (.ifCond .ge 7, 3) := by decide +kernel
theorem dX7_nextToken_200 : decode cX7_nextToken 200 = .ok (.iconst 4, 1) := by decide +kernel
theorem dX7_nextToken_201 : decode cX7_nextToken 201 = .ok (.goto 4, 3) := by decide +kernel
theorem dX7_nextToken_204 : decode cX7_nextToken 204 = .ok (.iconst 1, 1) := by decide +kernel
theorem dX7_nextToken_205 : decode cX7_nextToken 205 = .ok (.putfield 182, 3) := by decide +kernel
theorem dX7_nextToken_208 : decode cX7_nextToken 208 = .ok (.goto 231, 3) := by decide +kernel
theorem dX7_nextToken_211 : decode cX7_nextToken 211 = .ok (.iload_n 1, 1) := by decide +kernel
theorem dX7_nextToken_212 : decode cX7_nextToken 212 = .ok (.bipush 48, 2) := by decide +kernel
theorem dX7_nextToken_214 : decode cX7_nextToken 214 = .ok (.bipush 57, 2) := by decide +kernel
theorem dX7_nextToken_216 : decode cX7_nextToken 216 = .ok (.invokestatic 110, 3) := by decide +kernel
theorem dX7_nextToken_219 : decode cX7_nextToken 219 = .ok (.ifCond .eq 96, 3) := by decide +kernel
theorem dX7_nextToken_222 : decode cX7_nextToken 222 = .ok (.aload_n 0, 1) := by decide +kernel
theorem dX7_nextToken_223 : decode cX7_nextToken 223 = .ok (.iconst 2, 1) := by decide +kernel
theorem dX7_nextToken_224 : decode cX7_nextToken 224 = .ok (.putfield 182, 3) := by decide +kernel
theorem dX7_nextToken_227 : decode cX7_nextToken 227 = .ok (.aload_n 0, 1) := by decide +kernel
theorem dX7_nextToken_228 : decode cX7_nextToken 228 = .ok (.iconst 0, 1) := by decide +kernel
theorem dX7_nextToken_229 : decode cX7_nextToken 229 = .ok (.putfield 194, 3) := by decide +kernel
theorem dX7_nextToken_232 : decode cX7_nextToken 232 = .ok (.aload_n 0, 1) := by decide +kernel
theorem dX7_nextToken_233 : decode cX7_nextToken 233 = .ok (.getfield 173, 3) := by decide +kernel
theorem dX7_nextToken_236 : decode cX7_nextToken 236 = .ok (.aload_n 0, 1) := by decide +kernel
theorem dX7_nextToken_237 : decode cX7_nextToken 237 = .ok (.getfield 176, 3) := by decide +kernel
theorem dX7_nextToken_240 : decode cX7_nextToken 240 = .ok (.if_icmp .ge 199, 3) := by decide +kernel
theorem dX7_nextToken_243 : decode cX7_nextToken 243 = .ok (.aload_n 0, 1) := by decide +kernel
theorem dX7_nextToken_244 : decode cX7_nextToken 244 = .ok (.getfield 16, 3) := by decide +kernel
theorem dX7_nextToken_247 : decode cX7_nextToken 247 = .ok (.aload_n 0, 1) := by decide +kernel
theorem dX7_nextToken_248 : decode cX7_nextToken 248 = .ok (.getfield 173, 3) := by decide +kernel
theorem dX7_nextToken_251 : decode cX7_nextToken 251 = .ok (.baload, 1) := by decide +kernel
theorem dX7_nextToken_252 : decode cX7_nextToken 252 = .ok (.bipush 48, 2) := by decide +kernel
theorem dX7_nextToken_254 : decode cX7_nextToken 254 = .ok (.bipush 57, 2) := by decide +kernel
theorem dX7_nextToken_256 : decode cX7_nextToken 256 = .ok (.invokestatic 110, 3) := by decide +kernel
theorem dX7_nextToken_259 : decode cX7_nextToken 259 = .ok (.ifCond .eq 180, 3) := by decide +kernel
theorem dX7_nextToken_262 : decode cX7_nextToken 262 = .ok (.aload_n 0, 1) := by decide +kernel
theorem dX7_nextToken_263 : decode cX7_nextToken 263 = .ok (.aload_n 0, 1) := by decide +kernel
theorem dX7_nextToken_264 : decode cX7_nextToken 264 = .ok (.getfield 194, 3) := by decide +kernel
theorem dX7_nextToken_267 : decode cX7_nextToken 267 = .ok (.ldc 197, 2) := by decide +kernel
theorem dX7_nextToken_269 : decode cX7_nextToken 269 = .ok (.if_icmp .le 10, 3) := by decide +kernel
theorem dX7_nextToken_272 : decode cX7_nextToken 272 = .ok (.aload_n 0, 1) := by decide +kernel
theorem dX7_nextToken_273 : decode cX7_nextToken 273 = .ok (.getfield 194, 3) := by decide +kernel
theorem dX7_nextToken_276 : decode cX7_nextToken 276 = .ok (.goto 23, 3) := by decide +kernel
theorem dX7_nextToken_279 : decode cX7_nextToken 279 = .ok (.bipush 10, 2) := by decide +kernel
theorem dX7_nextToken_281 : decode cX7_nextToken 281 = .ok (.aload_n 0, 1) := by decide +kernel
theorem dX7_nextToken_282 : decode cX7_nextToken 282 = .ok (.getfield 194, 3) := by decide +kernel
theorem dX7_nextToken_285 : decode cX7_nextToken 285 = .ok (.imul, 1) := by decide +kernel
theorem dX7_nextToken_286 : decode cX7_nextToken 286 = .ok (.aload_n 0, 1) := by decide +kernel
theorem dX7_nextToken_287 : decode cX7_nextToken 287 = .ok (.getfield 16, 3) := by decide +kernel
theorem dX7_nextToken_290 : decode cX7_nextToken 290 = .ok (.aload_n 0, 1) := by decide +kernel
theorem dX7_nextToken_291 : decode cX7_nextToken 291 = .ok (.getfield 173, 3) := by decide +kernel
theorem dX7_nextToken_294 : decode cX7_nextToken 294 = .ok (.baload, 1) := by decide +kernel
theorem dX7_nextToken_295 : decode cX7_nextToken 295 = .ok (.iadd, 1) := by decide +kernel
theorem dX7_nextToken_296 : decode cX7_nextToken 296 = .ok (.bipush 48, 2) := by decide +kernel
theorem dX7_nextToken_298 : decode cX7_nextToken 298 = .ok (.isub, 1) := by decide +kernel
theorem dX7_nextToken_299 : decode cX7_nextToken 299 = .ok (.putfield 194, 3) := by decide +kernel
theorem dX7_nextToken_302 : decode cX7_nextToken 302 = .ok (.aload_n 0, 1) := by decide +kernel
theorem dX7_nextToken_303 : decode cX7_nextToken 303 = .ok (.dup, 1) := by decide +kernel
theorem dX7_nextToken_304 : decode cX7_nextToken 304 = .ok (.getfield 173, 3) := by decide +kernel
theorem dX7_nextToken_307 : decode cX7_nextToken 307 = .ok (.iconst 1, 1) := by decide +kernel
theorem dX7_nextToken_308 : decode cX7_nextToken 308 = .ok (.iadd, 1) := by decide +kernel
theorem dX7_nextToken_309 : decode cX7_nextToken 309 = .ok (.putfield 173, 3) := by decide +kernel
theorem dX7_nextToken_312 : decode cX7_nextToken 312 = .ok (.goto (-80), 3) := by decide +kernel
theorem dX7_nextToken_315 : decode cX7_nextToken 315 = .ok (.aload_n 0, 1) := by decide +kernel
theorem dX7_nextToken_316 : decode cX7_nextToken 316 = .ok (.dup, 1) := by decide +kernel
theorem dX7_nextToken_317 : decode cX7_nextToken 317 = .ok (.getfield 173, 3) := by decide +kernel
theorem dX7_nextToken_320 : decode cX7_nextToken 320 = .ok (.iconst 1, 1) := by decide +kernel
theorem dX7_nextToken_321 : decode cX7_nextToken 321 = .ok (.iadd, 1) := by decide +kernel
theorem dX7_nextToken_322 : decode cX7_nextToken 322 = .ok (.putfield 173, 3) := by decide +kernel
theorem dX7_nextToken_325 : decode cX7_nextToken 325 = .ok (.aload_n 0, 1) := by decide +kernel
theorem dX7_nextToken_326 : decode cX7_nextToken 326 = .ok (.iload_n 1, 1) := by decide +kernel
theorem dX7_nextToken_327 : decode cX7_nextToken 327 = .ok (.putfield 194, 3) := by decide +kernel
theorem dX7_nextToken_330 : decode cX7_nextToken 330 = .ok (.aload_n 0, 1) := by decide +kernel
theorem dX7_nextToken_331 : decode cX7_nextToken 331 = .ok (.iload_n 1, 1) := by decide +kernel
theorem dX7_nextToken_332 : decode cX7_nextToken 332 = .ok (.bipush 59, 2) := by decide +kernel
theorem dX7_nextToken_334 : decode cX7_nextToken 334 = .ok (.bipush 62, 2) := by decide +kernel
theorem dX7_nextToken_336 : decode cX7_nextToken 336 = .ok (.invokestatic 110, 3) := by decide +kernel
theorem dX7_nextToken_339 : decode cX7_nextToken 339 = .ok (.ifCond .ne 26, 3) := by decide +kernel
theorem dX7_nextToken_342 : decode cX7_nextToken 342 = .ok (.iload_n 1, 1) := by decide +kernel
theorem dX7_nextToken_343 : decode cX7_nextToken 343 = .ok (.bipush 40, 2) := by decide +kernel
theorem dX7_nextToken_345 : decode cX7_nextToken 345 = .ok (.bipush 45, 2) := by decide +kernel
theorem dX7_nextToken_347 : decode cX7_nextToken 347 = .ok (.invokestatic 110, 3) := by decide +kernel
theorem dX7_nextToken_350 : decode cX7_nextToken 350 = .ok (.ifCond .ne 15, 3) := by decide +kernel
theorem dX7_nextToken_353 : decode cX7_nextToken 353 = .ok (.iload_n 1, 1) := by decide +kernel
theorem dX7_nextToken_354 : decode cX7_nextToken 354 = .ok (.bipush 47, 2) := by decide +kernel
theorem dX7_nextToken_356 : decode cX7_nextToken 356 = .ok (.if_icmp .eq 9, 3) := by decide +kernel
theorem dX7_nextToken_359 : decode cX7_nextToken 359 = .ok (.iload_n 1, 1) := by decide +kernel
theorem dX7_nextToken_360 : decode cX7_nextToken 360 = .ok (.bipush 35, 2) := by decide +kernel
theorem dX7_nextToken_362 : decode cX7_nextToken 362 = .ok (.if_icmp .ne 7, 3) := by decide +kernel
theorem dX7_nextToken_365 : decode cX7_nextToken 365 = .ok (.iconst 3, 1) := by decide +kernel
theorem dX7_nextToken_366 : decode cX7_nextToken 366 = .ok (.goto 4, 3) := by decide +kernel
theorem dX7_nextToken_369 : decode cX7_nextToken 369 = .ok (.iconst 4, 1) := by decide +kernel
theorem dX7_nextToken_370 : decode cX7_nextToken 370 = .ok (.putfield 182, 3) := by decide +kernel
theorem dX7_nextToken_373 : decode cX7_nextToken 373 = .ok (.iload_n 1, 1) := by decide +kernel
theorem dX7_nextToken_374 : decode cX7_nextToken 374 = .ok (.bipush 60, 2) := by decide +kernel
theorem dX7_nextToken_376 : decode cX7_nextToken 376 = .ok (.if_icmp .eq 9, 3) := by decide +kernel
theorem dX7_nextToken_379 : decode cX7_nextToken 379 = .ok (.iload_n 1, 1) := by decide +kernel
theorem dX7_nextToken_380 : decode cX7_nextToken 380 = .ok (.bipush 62, 2) := by decide +kernel
theorem dX7_nextToken_382 : decode cX7_nextToken 382 = .ok (.if_icmp .ne 57, 3) := by decide +kernel
theorem dX7_nextToken_385 : decode cX7_nextToken 385 = .ok (.aload_n 0, 1) := by decide +kernel
theorem dX7_nextToken_386 : decode cX7_nextToken 386 = .ok (.getfield 173, 3) := by decide +kernel
theorem dX7_nextToken_389 : decode cX7_nextToken 389 = .ok (.aload_n 0, 1) := by decide +kernel
theorem dX7_nextToken_390 : decode cX7_nextToken 390 = .ok (.getfield 176, 3) := by decide +kernel
theorem dX7_nextToken_393 : decode cX7_nextToken 393 = .ok (.if_icmp .ge 46, 3) := by decide +kernel
theorem dX7_nextToken_396 : decode cX7_nextToken 396 = .ok (.aload_n 0, 1) := by decide +kernel
theorem dX7_nextToken_397 : decode cX7_nextToken 397 = .ok (.getfield 16, 3) := by decide +kernel
theorem dX7_nextToken_400 : decode cX7_nextToken 400 = .ok (.aload_n 0, 1) := by decide +kernel
theorem dX7_nextToken_401 : decode cX7_nextToken 401 = .ok (.getfield 173, 3) := by decide +kernel
theorem dX7_nextToken_404 : decode cX7_nextToken 404 = .ok (.baload, 1) := by decide +kernel
theorem dX7_nextToken_405 : decode cX7_nextToken 405 = .ok (.bipush 61, 2) := by decide +kernel
theorem dX7_nextToken_407 : decode cX7_nextToken 407 = .ok (.if_icmp .ne 32, 3) := by decide +kernel
theorem dX7_nextToken_410 : decode cX7_nextToken 410 = .ok (.aload_n 0, 1) := by decide +kernel
theorem dX7_nextToken_411 : decode cX7_nextToken 411 = .ok (.iload_n 1, 1) := by decide +kernel
theorem dX7_nextToken_412 : decode cX7_nextToken 412 = .ok (.bipush 60, 2) := by decide +kernel
theorem dX7_nextToken_414 : decode cX7_nextToken 414 = .ok (.if_icmp .ne 9, 3) := by decide +kernel
theorem dX7_nextToken_417 : decode cX7_nextToken 417 = .ok (.sipush 300, 3) := by decide +kernel
theorem dX7_nextToken_420 : decode cX7_nextToken 420 = .ok (.goto 6, 3) := by decide +kernel
theorem dX7_nextToken_423 : decode cX7_nextToken 423 = .ok (.sipush 301, 3) := by decide +kernel
theorem dX7_nextToken_426 : decode cX7_nextToken 426 = .ok (.putfield 194, 3) := by decide +kernel
theorem dX7_nextToken_429 : decode cX7_nextToken 429 = .ok (.aload_n 0, 1) := by decide +kernel
theorem dX7_nextToken_430 : decode cX7_nextToken 430 = .ok (.dup, 1) := by decide +kernel
theorem dX7_nextToken_431 : decode cX7_nextToken 431 = .ok (.getfield 173, 3) := by decide +kernel
theorem dX7_nextToken_434 : decode cX7_nextToken 434 = .ok (.iconst 1, 1) := by decide +kernel
theorem dX7_nextToken_435 : decode cX7_nextToken 435 = .ok (.iadd, 1) := by decide +kernel
theorem dX7_nextToken_436 : decode cX7_nextToken 436 = .ok (.putfield 173, 3) := by decide +kernel
theorem dX7_nextToken_439 : decode cX7_nextToken 439 = .ok (.return_, 1) := by decide +kernel
theorem dX7_isSign_0 : decode cX7_isSign 0 = .ok (.aload_n 0, 1) := by decide +kernel
theorem dX7_isSign_1 : decode cX7_isSign 1 = .ok (.getfield 182, 3) := by decide +kernel
theorem dX7_isSign_4 : decode cX7_isSign 4 = .ok (.iconst 3, 1) := by decide +kernel
theorem dX7_isSign_5 : decode cX7_isSign 5 = .ok (.if_icmp .ne 15, 3) := by decide +kernel
theorem dX7_isSign_8 : decode cX7_isSign 8 = .ok (.aload_n 0, 1) := by decide +kernel
theorem dX7_isSign_9 : decode cX7_isSign 9 = .ok (.getfield 194, 3) := by decide +kernel
theorem dX7_isSign_12 : decode cX7_isSign 12 = .ok (.iload_n 1, 1) := by decide +kernel
theorem dX7_isSign_13 : decode cX7_isSign 13 = .ok (.if_icmp .ne 7, 3) := by decide +kernel
theorem dX7_isSign_16 : decode cX7_isSign 16 = .ok (.iconst 1, 1) := by decide +kernel
theorem dX7_isSign_17 : decode cX7_isSign 17 = .ok (.goto 4, 3) := by decide +kernel
theorem dX7_isSign_20 : decode cX7_isSign 20 = .ok (.iconst 0, 1) := by decide +kernel
theorem dX7_isSign_21 : decode cX7_isSign 21 = .ok (.ireturn, 1) := by decide +kernel
theorem dX7_isWord_0 : decode cX7_isWord 0 = .ok (.aload_n 0, 1) := by decide +kernel
theorem dX7_isWord_1 : decode cX7_isWord 1 = .ok (.getfield 182, 3) := by decide +kernel
theorem dX7_isWord_4 : decode cX7_isWord 4 = .ok (.iconst 1, 1) := by decide +kernel
theorem dX7_isWord_5 : decode cX7_isWord 5 = .ok (.if_icmp .ne 15, 3) := by decide +kernel
theorem dX7_isWord_8 : decode cX7_isWord 8 = .ok (.aload_n 0, 1) := by decide +kernel
theorem dX7_isWord_9 : decode cX7_isWord 9 = .ok (.getfield 194, 3) := by decide +kernel
theorem dX7_isWord_12 : decode cX7_isWord 12 = .ok (.iload_n 1, 1) := by decide +kernel
theorem dX7_isWord_13 : decode cX7_isWord 13 = .ok (.if_icmp .ne 7, 3) := by decide +kernel
theorem dX7_isWord_16 : decode cX7_isWord 16 = .ok (.iconst 1, 1) := by decide +kernel
theorem dX7_isWord_17 : decode cX7_isWord 17 = .ok (.goto 4, 3) := by decide +kernel
theorem dX7_isWord_20 : decode cX7_isWord 20 = .ok (.iconst 0, 1) := by decide +kernel
theorem dX7_isWord_21 : decode cX7_isWord 21 = .ok (.ireturn, 1) := by decide +kernel
theorem dX7_errs_0 : decode cX7_errs 0 = .ok (.aload_n 0, 1) := by decide +kernel
theorem dX7_errs_1 : decode cX7_errs 1 = .ok (.getfield 198, 3) := by decide +kernel
theorem dX7_errs_4 : decode cX7_errs 4 = .ok (.ifCond .ne 16, 3) := by decide +kernel
theorem dX7_errs_7 : decode cX7_errs 7 = .ok (.aload_n 0, 1) := by decide +kernel
theorem dX7_errs_8 : decode cX7_errs 8 = .ok (.iload_n 1, 1) := by decide +kernel
theorem dX7_errs_9 : decode cX7_errs 9 = .ok (.putfield 198, 3) := by decide +kernel
theorem dX7_errs_12 : decode cX7_errs 12 = .ok (.aload_n 0, 1) := by decide +kernel
theorem dX7_errs_13 : decode cX7_errs 13 = .ok (.aload_n 0, 1) := by decide +kernel
theorem dX7_errs_14 : decode cX7_errs 14 = .ok (.getfield 179, 3) := by decide +kernel
theorem dX7_errs_17 : decode cX7_errs 17 = .ok (.putfield 201, 3) := by decide +kernel
theorem dX7_errs_20 : decode cX7_errs 20 = .ok (.return_, 1) := by decide +kernel
theorem dX7_emits_0 : decode cX7_emits 0 = .ok (.aload_n 0, 1) := by decide +kernel
theorem dX7_emits_1 : decode cX7_emits 1 = .ok (.getfield 72, 3) := by decide +kernel
theorem dX7_emits_4 : decode cX7_emits 4 = .ok (.aload_n 0, 1) := by decide +kernel
theorem dX7_emits_5 : decode cX7_emits 5 = .ok (.getfield 204, 3) := by decide +kernel
theorem dX7_emits_8 : decode cX7_emits 8 = .ok (.iload_n 1, 1) := by decide +kernel
theorem dX7_emits_9 : decode cX7_emits 9 = .ok (.iastore, 1) := by decide +kernel
theorem dX7_emits_10 : decode cX7_emits 10 = .ok (.aload_n 0, 1) := by decide +kernel
theorem dX7_emits_11 : decode cX7_emits 11 = .ok (.getfield 75, 3) := by decide +kernel
theorem dX7_emits_14 : decode cX7_emits 14 = .ok (.aload_n 0, 1) := by decide +kernel
theorem dX7_emits_15 : decode cX7_emits 15 = .ok (.getfield 204, 3) := by decide +kernel
theorem dX7_emits_18 : decode cX7_emits 18 = .ok (.iload_n 2, 1) := by decide +kernel
theorem dX7_emits_19 : decode cX7_emits 19 = .ok (.iastore, 1) := by decide +kernel
theorem dX7_emits_20 : decode cX7_emits 20 = .ok (.aload_n 0, 1) := by decide +kernel
theorem dX7_emits_21 : decode cX7_emits 21 = .ok (.dup, 1) := by decide +kernel
theorem dX7_emits_22 : decode cX7_emits 22 = .ok (.getfield 204, 3) := by decide +kernel
theorem dX7_emits_25 : decode cX7_emits 25 = .ok (.iconst 1, 1) := by decide +kernel
theorem dX7_emits_26 : decode cX7_emits 26 = .ok (.iadd, 1) := by decide +kernel
theorem dX7_emits_27 : decode cX7_emits 27 = .ok (.putfield 204, 3) := by decide +kernel
theorem dX7_emits_30 : decode cX7_emits 30 = .ok (.return_, 1) := by decide +kernel
theorem dX7_opensFrame_0 : decode cX7_opensFrame 0 = .ok (.aload_n 0, 1) := by decide +kernel
theorem dX7_opensFrame_1 : decode cX7_opensFrame 1 = .ok (.getfield 48, 3) := by decide +kernel
theorem dX7_opensFrame_4 : decode cX7_opensFrame 4 = .ok (.aload_n 0, 1) := by decide +kernel
theorem dX7_opensFrame_5 : decode cX7_opensFrame 5 = .ok (.getfield 207, 3) := by decide +kernel
theorem dX7_opensFrame_8 : decode cX7_opensFrame 8 = .ok (.iload_n 1, 1) := by decide +kernel
theorem dX7_opensFrame_9 : decode cX7_opensFrame 9 = .ok (.iastore, 1) := by decide +kernel
theorem dX7_opensFrame_10 : decode cX7_opensFrame 10 = .ok (.aload_n 0, 1) := by decide +kernel
theorem dX7_opensFrame_11 : decode cX7_opensFrame 11 = .ok (.dup, 1) := by decide +kernel
theorem dX7_opensFrame_12 : decode cX7_opensFrame 12 = .ok (.getfield 207, 3) := by decide +kernel
theorem dX7_opensFrame_15 : decode cX7_opensFrame 15 = .ok (.iconst 1, 1) := by decide +kernel
theorem dX7_opensFrame_16 : decode cX7_opensFrame 16 = .ok (.iadd, 1) := by decide +kernel
theorem dX7_opensFrame_17 : decode cX7_opensFrame 17 = .ok (.putfield 207, 3) := by decide +kernel
theorem dX7_opensFrame_20 : decode cX7_opensFrame 20 = .ok (.return_, 1) := by decide +kernel
theorem dX7_top_0 : decode cX7_top 0 = .ok (.aload_n 0, 1) := by decide +kernel
theorem dX7_top_1 : decode cX7_top 1 = .ok (.getfield 48, 3) := by decide +kernel
theorem dX7_top_4 : decode cX7_top 4 = .ok (.aload_n 0, 1) := by decide +kernel
theorem dX7_top_5 : decode cX7_top 5 = .ok (.getfield 207, 3) := by decide +kernel
theorem dX7_top_8 : decode cX7_top 8 = .ok (.iconst 1, 1) := by decide +kernel
theorem dX7_top_9 : decode cX7_top 9 = .ok (.isub, 1) := by decide +kernel
theorem dX7_top_10 : decode cX7_top 10 = .ok (.iaload, 1) := by decide +kernel
theorem dX7_top_11 : decode cX7_top 11 = .ok (.ireturn, 1) := by decide +kernel
theorem dX7_opensSign_0 : decode cX7_opensSign 0 = .ok (.aload_n 0, 1) := by decide +kernel
theorem dX7_opensSign_1 : decode cX7_opensSign 1 = .ok (.getfield 210, 3) := by decide +kernel
theorem dX7_opensSign_4 : decode cX7_opensSign 4 = .ok (.bipush 8, 2) := by decide +kernel
theorem dX7_opensSign_6 : decode cX7_opensSign 6 = .ok (.if_icmp .ne 10, 3) := by decide +kernel
theorem dX7_opensSign_9 : decode cX7_opensSign 9 = .ok (.aload_n 0, 1) := by decide +kernel
theorem dX7_opensSign_10 : decode cX7_opensSign 10 = .ok (.iconst 3, 1) := by decide +kernel
theorem dX7_opensSign_11 : decode cX7_opensSign 11 = .ok (.invokevirtual 213, 3) := by decide +kernel
theorem dX7_opensSign_14 : decode cX7_opensSign 14 = .ok (.iconst 0, 1) := by decide +kernel
theorem dX7_opensSign_15 : decode cX7_opensSign 15 = .ok (.ireturn, 1) := by decide +kernel
theorem dX7_opensSign_16 : decode cX7_opensSign 16 = .ok (.aload_n 0, 1) := by decide +kernel
theorem dX7_opensSign_17 : decode cX7_opensSign 17 = .ok (.dup, 1) := by decide +kernel
theorem dX7_opensSign_18 : decode cX7_opensSign 18 = .ok (.getfield 210, 3) := by decide +kernel
theorem dX7_opensSign_21 : decode cX7_opensSign 21 = .ok (.iconst 1, 1) := by decide +kernel
theorem dX7_opensSign_22 : decode cX7_opensSign 22 = .ok (.iadd, 1) := by decide +kernel
theorem dX7_opensSign_23 : decode cX7_opensSign 23 = .ok (.putfield 210, 3) := by decide +kernel
theorem dX7_opensSign_26 : decode cX7_opensSign 26 = .ok (.aload_n 0, 1) := by decide +kernel
theorem dX7_opensSign_27 : decode cX7_opensSign 27 = .ok (.iload_n 1, 1) := by decide +kernel
theorem dX7_opensSign_28 : decode cX7_opensSign 28 = .ok (.invokevirtual 216, 3) := by decide +kernel
theorem dX7_opensSign_31 : decode cX7_opensSign 31 = .ok (.aload_n 0, 1) := by decide +kernel
theorem dX7_opensSign_32 : decode cX7_opensSign 32 = .ok (.invokevirtual 219, 3) := by decide +kernel
theorem dX7_opensSign_35 : decode cX7_opensSign 35 = .ok (.iconst 1, 1) := by decide +kernel
theorem dX7_opensSign_36 : decode cX7_opensSign 36 = .ok (.ireturn, 1) := by decide +kernel
theorem dX7_rank_0 : decode cX7_rank 0 = .ok (.iload_n 0, 1) := by decide +kernel
theorem dX7_rank_1 : decode cX7_rank 1 = .ok (.sipush 407, 3) := by decide +kernel
theorem dX7_rank_4 : decode cX7_rank 4 = .ok (.if_icmp .ne 7, 3) := by decide +kernel
theorem dX7_rank_7 : decode cX7_rank 7 = .ok (.iconst 1, 1) := by decide +kernel
theorem dX7_rank_8 : decode cX7_rank 8 = .ok (.goto 31, 3) := by decide +kernel
theorem dX7_rank_11 : decode cX7_rank 11 = .ok (.iload_n 0, 1) := by decide +kernel
theorem dX7_rank_12 : decode cX7_rank 12 = .ok (.sipush 406, 3) := by decide +kernel
theorem dX7_rank_15 : decode cX7_rank 15 = .ok (.if_icmp .ne 7, 3) := by decide +kernel
theorem dX7_rank_18 : decode cX7_rank 18 = .ok (.iconst 2, 1) := by decide +kernel
theorem dX7_rank_19 : decode cX7_rank 19 = .ok (.goto 20, 3) := by decide +kernel
theorem dX7_rank_22 : decode cX7_rank 22 = .ok (.iload_n 0, 1) := by decide +kernel
theorem dX7_rank_23 : decode cX7_rank 23 = .ok (.bipush 43, 2) := by decide +kernel
theorem dX7_rank_25 : decode cX7_rank 25 = .ok (.if_icmp .eq 9, 3) := by decide +kernel
theorem dX7_rank_28 : decode cX7_rank 28 = .ok (.iload_n 0, 1) := by decide +kernel
theorem dX7_rank_29 : decode cX7_rank 29 = .ok (.bipush 45, 2) := by decide +kernel
theorem dX7_rank_31 : decode cX7_rank 31 = .ok (.if_icmp .ne 7, 3) := by decide +kernel
theorem dX7_rank_34 : decode cX7_rank 34 = .ok (.iconst 3, 1) := by decide +kernel
theorem dX7_rank_35 : decode cX7_rank 35 = .ok (.goto 4, 3) := by decide +kernel
theorem dX7_rank_38 : decode cX7_rank 38 = .ok (.iconst 4, 1) := by decide +kernel
theorem dX7_rank_39 : decode cX7_rank 39 = .ok (.ireturn, 1) := by decide +kernel
theorem dX7_works_0 : decode cX7_works 0 = .ok (.aload_n 0, 1) := by decide +kernel
theorem dX7_works_1 : decode cX7_works 1 = .ok (.getfield 222, 3) := by decide +kernel
theorem dX7_works_4 : decode cX7_works 4 = .ok (.ifCond .le 66, 3) := by decide +kernel
theorem dX7_works_7 : decode cX7_works 7 = .ok (.aload_n 0, 1) := by decide +kernel
theorem dX7_works_8 : decode cX7_works 8 = .ok (.getfield 57, 3) := by decide +kernel
theorem dX7_works_11 : decode cX7_works 11 = .ok (.aload_n 0, 1) := by decide +kernel
theorem dX7_works_12 : decode cX7_works 12 = .ok (.getfield 222, 3) := by decide +kernel
theorem dX7_works_15 : decode cX7_works 15 = .ok (.iconst 1, 1) := by decide +kernel
theorem dX7_works_16 : decode cX7_works 16 = .ok (.isub, 1) := by decide +kernel
theorem dX7_works_17 : decode cX7_works 17 = .ok (.iaload, 1) := by decide +kernel
theorem dX7_works_18 : decode cX7_works 18 = .ok (.aload_n 0, 1) := by decide +kernel
theorem dX7_works_19 : decode cX7_works 19 = .ok (.getfield 207, 3) := by decide +kernel
theorem dX7_works_22 : decode cX7_works 22 = .ok (.if_icmp .ne 48, 3) := by decide +kernel
theorem dX7_works_25 : decode cX7_works 25 = .ok (.aload_n 0, 1) := by decide +kernel
theorem dX7_works_26 : decode cX7_works 26 = .ok (.getfield 54, 3) := by decide +kernel
theorem dX7_works_29 : decode cX7_works 29 = .ok (.aload_n 0, 1) := by decide +kernel
theorem dX7_works_30 : decode cX7_works 30 = .ok (.getfield 222, 3) := by decide +kernel
theorem dX7_works_33 : decode cX7_works 33 = .ok (.iconst 1, 1) := by decide +kernel
theorem dX7_works_34 : decode cX7_works 34 = .ok (.isub, 1) := by decide +kernel
theorem dX7_works_35 : decode cX7_works 35 = .ok (.iaload, 1) := by decide +kernel
theorem dX7_works_36 : decode cX7_works 36 = .ok (.invokestatic 225, 3) := by decide +kernel
theorem dX7_works_39 : decode cX7_works 39 = .ok (.iload_n 1, 1) := by decide +kernel
theorem dX7_works_40 : decode cX7_works 40 = .ok (.if_icmp .lt 30, 3) := by decide +kernel
theorem dX7_works_43 : decode cX7_works 43 = .ok (.aload_n 0, 1) := by decide +kernel
theorem dX7_works_44 : decode cX7_works 44 = .ok (.dup, 1) := by decide +kernel
theorem dX7_works_45 : decode cX7_works 45 = .ok (.getfield 222, 3) := by decide +kernel
theorem dX7_works_48 : decode cX7_works 48 = .ok (.iconst 1, 1) := by decide +kernel
theorem dX7_works_49 : decode cX7_works 49 = .ok (.isub, 1) := by decide +kernel
theorem dX7_works_50 : decode cX7_works 50 = .ok (.putfield 222, 3) := by decide +kernel
theorem dX7_works_53 : decode cX7_works 53 = .ok (.aload_n 0, 1) := by decide +kernel
theorem dX7_works_54 : decode cX7_works 54 = .ok (.aload_n 0, 1) := by decide +kernel
theorem dX7_works_55 : decode cX7_works 55 = .ok (.getfield 54, 3) := by decide +kernel
theorem dX7_works_58 : decode cX7_works 58 = .ok (.aload_n 0, 1) := by decide +kernel
theorem dX7_works_59 : decode cX7_works 59 = .ok (.getfield 222, 3) := by decide +kernel
theorem dX7_works_62 : decode cX7_works 62 = .ok (.iaload, 1) := by decide +kernel
theorem dX7_works_63 : decode cX7_works 63 = .ok (.iconst 0, 1) := by decide +kernel
theorem dX7_works_64 : decode cX7_works 64 = .ok (.invokevirtual 229, 3) := by decide +kernel
theorem dX7_works_67 : decode cX7_works 67 = .ok (.goto (-67), 3) := by decide +kernel
theorem dX7_works_70 : decode cX7_works 70 = .ok (.return_, 1) := by decide +kernel
theorem dX7_waitsFor_0 : decode cX7_waitsFor 0 = .ok (.aload_n 0, 1) := by decide +kernel
theorem dX7_waitsFor_1 : decode cX7_waitsFor 1 = .ok (.iload_n 1, 1) := by decide +kernel
theorem dX7_waitsFor_2 : decode cX7_waitsFor 2 = .ok (.invokestatic 225, 3) := by decide +kernel
theorem dX7_waitsFor_5 : decode cX7_waitsFor 5 = .ok (.invokevirtual 233, 3) := by decide +kernel
theorem dX7_waitsFor_8 : decode cX7_waitsFor 8 = .ok (.aload_n 0, 1) := by decide +kernel
theorem dX7_waitsFor_9 : decode cX7_waitsFor 9 = .ok (.getfield 54, 3) := by decide +kernel
theorem dX7_waitsFor_12 : decode cX7_waitsFor 12 = .ok (.aload_n 0, 1) := by decide +kernel
theorem dX7_waitsFor_13 : decode cX7_waitsFor 13 = .ok (.getfield 222, 3) := by decide +kernel
theorem dX7_waitsFor_16 : decode cX7_waitsFor 16 = .ok (.iload_n 1, 1) := by decide +kernel
theorem dX7_waitsFor_17 : decode cX7_waitsFor 17 = .ok (.iastore, 1) := by decide +kernel
theorem dX7_waitsFor_18 : decode cX7_waitsFor 18 = .ok (.aload_n 0, 1) := by decide +kernel
theorem dX7_waitsFor_19 : decode cX7_waitsFor 19 = .ok (.getfield 57, 3) := by decide +kernel
theorem dX7_waitsFor_22 : decode cX7_waitsFor 22 = .ok (.aload_n 0, 1) := by decide +kernel
theorem dX7_waitsFor_23 : decode cX7_waitsFor 23 = .ok (.getfield 222, 3) := by decide +kernel
theorem dX7_waitsFor_26 : decode cX7_waitsFor 26 = .ok (.aload_n 0, 1) := by decide +kernel
theorem dX7_waitsFor_27 : decode cX7_waitsFor 27 = .ok (.getfield 207, 3) := by decide +kernel
theorem dX7_waitsFor_30 : decode cX7_waitsFor 30 = .ok (.iastore, 1) := by decide +kernel
theorem dX7_waitsFor_31 : decode cX7_waitsFor 31 = .ok (.aload_n 0, 1) := by decide +kernel
theorem dX7_waitsFor_32 : decode cX7_waitsFor 32 = .ok (.dup, 1) := by decide +kernel
theorem dX7_waitsFor_33 : decode cX7_waitsFor 33 = .ok (.getfield 222, 3) := by decide +kernel
theorem dX7_waitsFor_36 : decode cX7_waitsFor 36 = .ok (.iconst 1, 1) := by decide +kernel
theorem dX7_waitsFor_37 : decode cX7_waitsFor 37 = .ok (.iadd, 1) := by decide +kernel
theorem dX7_waitsFor_38 : decode cX7_waitsFor 38 = .ok (.putfield 222, 3) := by decide +kernel
theorem dX7_waitsFor_41 : decode cX7_waitsFor 41 = .ok (.aload_n 0, 1) := by decide +kernel
theorem dX7_waitsFor_42 : decode cX7_waitsFor 42 = .ok (.invokevirtual 219, 3) := by decide +kernel
theorem dX7_waitsFor_45 : decode cX7_waitsFor 45 = .ok (.return_, 1) := by decide +kernel
theorem dX7_asks_0 : decode cX7_asks 0 = .ok (.aload_n 0, 1) := by decide +kernel
theorem dX7_asks_1 : decode cX7_asks 1 = .ok (.bipush 11, 2) := by decide +kernel
theorem dX7_asks_3 : decode cX7_asks 3 = .ok (.invokevirtual 236, 3) := by decide +kernel
theorem dX7_asks_6 : decode cX7_asks 6 = .ok (.ifCond .eq 12, 3) := by decide +kernel
theorem dX7_asks_9 : decode cX7_asks 9 = .ok (.aload_n 0, 1) := by decide +kernel
theorem dX7_asks_10 : decode cX7_asks 10 = .ok (.iconst 3, 1) := by decide +kernel
theorem dX7_asks_11 : decode cX7_asks 11 = .ok (.invokevirtual 239, 3) := by decide +kernel
theorem dX7_asks_14 : decode cX7_asks 14 = .ok (.istore_n 1, 1) := by decide +kernel
theorem dX7_asks_15 : decode cX7_asks 15 = .ok (.goto 13, 3) := by decide +kernel
theorem dX7_asks_18 : decode cX7_asks 18 = .ok (.aload_n 0, 1) := by decide +kernel
theorem dX7_asks_19 : decode cX7_asks 19 = .ok (.iconst 4, 1) := by decide +kernel
theorem dX7_asks_20 : decode cX7_asks 20 = .ok (.invokevirtual 216, 3) := by decide +kernel
theorem dX7_asks_23 : decode cX7_asks 23 = .ok (.aload_n 0, 1) := by decide +kernel
theorem dX7_asks_24 : decode cX7_asks 24 = .ok (.iconst 1, 1) := by decide +kernel
theorem dX7_asks_25 : decode cX7_asks 25 = .ok (.putfield 242, 3) := by decide +kernel
theorem dX7_asks_28 : decode cX7_asks 28 = .ok (.return_, 1) := by decide +kernel
theorem dX7_mayName_0 : decode cX7_mayName 0 = .ok (.iload_n 1, 1) := by decide +kernel
theorem dX7_mayName_1 : decode cX7_mayName 1 = .ok (.ifCond .ne 17, 3) := by decide +kernel
theorem dX7_mayName_4 : decode cX7_mayName 4 = .ok (.iload_n 0, 1) := by decide +kernel
theorem dX7_mayName_5 : decode cX7_mayName 5 = .ok (.bipush 8, 2) := by decide +kernel
theorem dX7_mayName_7 : decode cX7_mayName 7 = .ok (.if_icmp .ge 7, 3) := by decide +kernel
theorem dX7_mayName_10 : decode cX7_mayName 10 = .ok (.iconst 1, 1) := by decide +kernel
theorem dX7_mayName_11 : decode cX7_mayName 11 = .ok (.goto 36, 3) := by decide +kernel
theorem dX7_mayName_14 : decode cX7_mayName 14 = .ok (.iconst 0, 1) := by decide +kernel
theorem dX7_mayName_15 : decode cX7_mayName 15 = .ok (.goto 32, 3) := by decide +kernel
theorem dX7_mayName_18 : decode cX7_mayName 18 = .ok (.iload_n 1, 1) := by decide +kernel
theorem dX7_mayName_19 : decode cX7_mayName 19 = .ok (.iconst 1, 1) := by decide +kernel
theorem dX7_mayName_20 : decode cX7_mayName 20 = .ok (.if_icmp .ne 16, 3) := by decide +kernel
theorem dX7_mayName_23 : decode cX7_mayName 23 = .ok (.iload_n 0, 1) := by decide +kernel
theorem dX7_mayName_24 : decode cX7_mayName 24 = .ok (.iconst 4, 1) := by decide +kernel
theorem dX7_mayName_25 : decode cX7_mayName 25 = .ok (.if_icmp .ge 7, 3) := by decide +kernel
theorem dX7_mayName_28 : decode cX7_mayName 28 = .ok (.iconst 1, 1) := by decide +kernel
theorem dX7_mayName_29 : decode cX7_mayName 29 = .ok (.goto 18, 3) := by decide +kernel
theorem dX7_mayName_32 : decode cX7_mayName 32 = .ok (.iconst 0, 1) := by decide +kernel
theorem dX7_mayName_33 : decode cX7_mayName 33 = .ok (.goto 14, 3) := by decide +kernel
theorem dX7_mayName_36 : decode cX7_mayName 36 = .ok (.iload_n 0, 1) := by decide +kernel
theorem dX7_mayName_37 : decode cX7_mayName 37 = .ok (.bipush 6, 2) := by decide +kernel
theorem dX7_mayName_39 : decode cX7_mayName 39 = .ok (.if_icmp .le 7, 3) := by decide +kernel
theorem dX7_mayName_42 : decode cX7_mayName 42 = .ok (.iconst 1, 1) := by decide +kernel
theorem dX7_mayName_43 : decode cX7_mayName 43 = .ok (.goto 4, 3) := by decide +kernel
theorem dX7_mayName_46 : decode cX7_mayName 46 = .ok (.iconst 0, 1) := by decide +kernel
theorem dX7_mayName_47 : decode cX7_mayName 47 = .ok (.ireturn, 1) := by decide +kernel
theorem dX7_begins_0 : decode cX7_begins 0 = .ok (.aload_n 0, 1) := by decide +kernel
theorem dX7_begins_1 : decode cX7_begins 1 = .ok (.getfield 182, 3) := by decide +kernel
theorem dX7_begins_4 : decode cX7_begins 4 = .ok (.iconst 2, 1) := by decide +kernel
theorem dX7_begins_5 : decode cX7_begins 5 = .ok (.if_icmp .ne 41, 3) := by decide +kernel
theorem dX7_begins_8 : decode cX7_begins 8 = .ok (.aload_n 0, 1) := by decide +kernel
theorem dX7_begins_9 : decode cX7_begins 9 = .ok (.getfield 194, 3) := by decide +kernel
theorem dX7_begins_12 : decode cX7_begins 12 = .ok (.sipush 9999, 3) := by decide +kernel
theorem dX7_begins_15 : decode cX7_begins 15 = .ok (.if_icmp .le 9, 3) := by decide +kernel
theorem dX7_begins_18 : decode cX7_begins 18 = .ok (.aload_n 0, 1) := by decide +kernel
theorem dX7_begins_19 : decode cX7_begins 19 = .ok (.iconst 2, 1) := by decide +kernel
theorem dX7_begins_20 : decode cX7_begins 20 = .ok (.invokevirtual 213, 3) := by decide +kernel
theorem dX7_begins_23 : decode cX7_begins 23 = .ok (.return_, 1) := by decide +kernel
theorem dX7_begins_24 : decode cX7_begins 24 = .ok (.aload_n 0, 1) := by decide +kernel
theorem dX7_begins_25 : decode cX7_begins 25 = .ok (.sipush 400, 3) := by decide +kernel
theorem dX7_begins_28 : decode cX7_begins 28 = .ok (.aload_n 0, 1) := by decide +kernel
theorem dX7_begins_29 : decode cX7_begins 29 = .ok (.getfield 194, 3) := by decide +kernel
theorem dX7_begins_32 : decode cX7_begins 32 = .ok (.invokevirtual 229, 3) := by decide +kernel
theorem dX7_begins_35 : decode cX7_begins 35 = .ok (.aload_n 0, 1) := by decide +kernel
theorem dX7_begins_36 : decode cX7_begins 36 = .ok (.invokevirtual 219, 3) := by decide +kernel
theorem dX7_begins_39 : decode cX7_begins 39 = .ok (.aload_n 0, 1) := by decide +kernel
theorem dX7_begins_40 : decode cX7_begins 40 = .ok (.invokevirtual 245, 3) := by decide +kernel
theorem dX7_begins_43 : decode cX7_begins 43 = .ok (.goto 109, 3) := by decide +kernel
theorem dX7_begins_46 : decode cX7_begins 46 = .ok (.aload_n 0, 1) := by decide +kernel
theorem dX7_begins_47 : decode cX7_begins 47 = .ok (.getfield 182, 3) := by decide +kernel
theorem dX7_begins_50 : decode cX7_begins 50 = .ok (.iconst 1, 1) := by decide +kernel
theorem dX7_begins_51 : decode cX7_begins 51 = .ok (.if_icmp .ne 58, 3) := by decide +kernel
theorem dX7_begins_54 : decode cX7_begins 54 = .ok (.aload_n 0, 1) := by decide +kernel
theorem dX7_begins_55 : decode cX7_begins 55 = .ok (.getfield 194, 3) := by decide +kernel
theorem dX7_begins_58 : decode cX7_begins 58 = .ok (.bipush 11, 2) := by decide +kernel
theorem dX7_begins_60 : decode cX7_begins 60 = .ok (.if_icmp .le 49, 3) := by decide +kernel
theorem dX7_begins_63 : decode cX7_begins 63 = .ok (.aload_n 0, 1) := by decide +kernel
theorem dX7_begins_64 : decode cX7_begins 64 = .ok (.getfield 194, 3) := by decide +kernel
theorem dX7_begins_67 : decode cX7_begins 67 = .ok (.bipush 11, 2) := by decide +kernel
theorem dX7_begins_69 : decode cX7_begins 69 = .ok (.isub, 1) := by decide +kernel
theorem dX7_begins_70 : decode cX7_begins 70 = .ok (.iconst 1, 1) := by decide +kernel
theorem dX7_begins_71 : decode cX7_begins 71 = .ok (.isub, 1) := by decide +kernel
theorem dX7_begins_72 : decode cX7_begins 72 = .ok (.istore_n 1, 1) := by decide +kernel
theorem dX7_begins_73 : decode cX7_begins 73 = .ok (.iload_n 1, 1) := by decide +kernel
theorem dX7_begins_74 : decode cX7_begins 74 = .ok (.aload_n 0, 1) := by decide +kernel
theorem dX7_begins_75 : decode cX7_begins 75 = .ok (.getfield 248, 3) := by decide +kernel
theorem dX7_begins_78 : decode cX7_begins 78 = .ok (.invokestatic 251, 3) := by decide +kernel
theorem dX7_begins_81 : decode cX7_begins 81 = .ok (.ifCond .ne 9, 3) := by decide +kernel
theorem dX7_begins_84 : decode cX7_begins 84 = .ok (.aload_n 0, 1) := by decide +kernel
theorem dX7_begins_85 : decode cX7_begins 85 = .ok (.iconst 5, 1) := by decide +kernel
theorem dX7_begins_86 : decode cX7_begins 86 = .ok (.invokevirtual 213, 3) := by decide +kernel
theorem dX7_begins_89 : decode cX7_begins 89 = .ok (.return_, 1) := by decide +kernel
theorem dX7_begins_90 : decode cX7_begins 90 = .ok (.aload_n 0, 1) := by decide +kernel
theorem dX7_begins_91 : decode cX7_begins 91 = .ok (.sipush 401, 3) := by decide +kernel
theorem dX7_begins_94 : decode cX7_begins 94 = .ok (.iload_n 1, 1) := by decide +kernel
theorem dX7_begins_95 : decode cX7_begins 95 = .ok (.invokevirtual 229, 3) := by decide +kernel
theorem dX7_begins_98 : decode cX7_begins 98 = .ok (.aload_n 0, 1) := by decide +kernel
theorem dX7_begins_99 : decode cX7_begins 99 = .ok (.invokevirtual 219, 3) := by decide +kernel
theorem dX7_begins_102 : decode cX7_begins 102 = .ok (.aload_n 0, 1) := by decide +kernel
theorem dX7_begins_103 : decode cX7_begins 103 = .ok (.invokevirtual 245, 3) := by decide +kernel
theorem dX7_begins_106 : decode cX7_begins 106 = .ok (.goto 46, 3) := by decide +kernel
theorem dX7_begins_109 : decode cX7_begins 109 = .ok (.aload_n 0, 1) := by decide +kernel
theorem dX7_begins_110 : decode cX7_begins 110 = .ok (.bipush 40, 2) := by decide +kernel
theorem dX7_begins_112 : decode cX7_begins 112 = .ok (.invokevirtual 255, 3) := by decide +kernel
theorem dX7_begins_115 : decode cX7_begins 115 = .ok (.ifCond .eq 13, 3) := by decide +kernel
theorem dX7_begins_118 : decode cX7_begins 118 = .ok (.aload_n 0, 1) := by decide +kernel
theorem dX7_begins_119 : decode cX7_begins 119 = .ok (.bipush 6, 2) := by decide +kernel
theorem dX7_begins_121 : decode cX7_begins 121 = .ok (.invokevirtual 239, 3) := by decide +kernel
theorem dX7_begins_124 : decode cX7_begins 124 = .ok (.istore_n 1, 1) := by decide +kernel
theorem dX7_begins_125 : decode cX7_begins 125 = .ok (.goto 27, 3) := by decide +kernel
theorem dX7_begins_128 : decode cX7_begins 128 = .ok (.aload_n 0, 1) := by decide +kernel
theorem dX7_begins_129 : decode cX7_begins 129 = .ok (.bipush 45, 2) := by decide +kernel
theorem dX7_begins_131 : decode cX7_begins 131 = .ok (.invokevirtual 255, 3) := by decide +kernel
theorem dX7_begins_134 : decode cX7_begins 134 = .ok (.ifCond .eq 13, 3) := by decide +kernel
theorem dX7_begins_137 : decode cX7_begins 137 = .ok (.aload_n 0, 1) := by decide +kernel
theorem dX7_begins_138 : decode cX7_begins 138 = .ok (.bipush 7, 2) := by decide +kernel
theorem dX7_begins_140 : decode cX7_begins 140 = .ok (.invokevirtual 239, 3) := by decide +kernel
theorem dX7_begins_143 : decode cX7_begins 143 = .ok (.istore_n 1, 1) := by decide +kernel
theorem dX7_begins_144 : decode cX7_begins 144 = .ok (.goto 8, 3) := by decide +kernel
theorem dX7_begins_147 : decode cX7_begins 147 = .ok (.aload_n 0, 1) := by decide +kernel
theorem dX7_begins_148 : decode cX7_begins 148 = .ok (.iconst 1, 1) := by decide +kernel
theorem dX7_begins_149 : decode cX7_begins 149 = .ok (.invokevirtual 213, 3) := by decide +kernel
theorem dX7_begins_152 : decode cX7_begins 152 = .ok (.return_, 1) := by decide +kernel
theorem dX7_oneIsOver_0 : decode cX7_oneIsOver 0 = .ok (.aload_n 0, 1) := by decide +kernel
theorem dX7_oneIsOver_1 : decode cX7_oneIsOver 1 = .ok (.invokevirtual 258, 3) := by decide +kernel
theorem dX7_oneIsOver_4 : decode cX7_oneIsOver 4 = .ok (.bipush 7, 2) := by decide +kernel
theorem dX7_oneIsOver_6 : decode cX7_oneIsOver 6 = .ok (.if_icmp .ne 34, 3) := by decide +kernel
theorem dX7_oneIsOver_9 : decode cX7_oneIsOver 9 = .ok (.aload_n 0, 1) := by decide +kernel
theorem dX7_oneIsOver_10 : decode cX7_oneIsOver 10 = .ok (.dup, 1) := by decide +kernel
theorem dX7_oneIsOver_11 : decode cX7_oneIsOver 11 = .ok (.getfield 207, 3) := by decide +kernel
theorem dX7_oneIsOver_14 : decode cX7_oneIsOver 14 = .ok (.iconst 1, 1) := by decide +kernel
theorem dX7_oneIsOver_15 : decode cX7_oneIsOver 15 = .ok (.isub, 1) := by decide +kernel
theorem dX7_oneIsOver_16 : decode cX7_oneIsOver 16 = .ok (.putfield 207, 3) := by decide +kernel
theorem dX7_oneIsOver_19 : decode cX7_oneIsOver 19 = .ok (.aload_n 0, 1) := by decide +kernel
theorem dX7_oneIsOver_20 : decode cX7_oneIsOver 20 = .ok (.dup, 1) := by decide +kernel
theorem dX7_oneIsOver_21 : decode cX7_oneIsOver 21 = .ok (.getfield 210, 3) := by decide +kernel
theorem dX7_oneIsOver_24 : decode cX7_oneIsOver 24 = .ok (.iconst 1, 1) := by decide +kernel
theorem dX7_oneIsOver_25 : decode cX7_oneIsOver 25 = .ok (.isub, 1) := by decide +kernel
theorem dX7_oneIsOver_26 : decode cX7_oneIsOver 26 = .ok (.putfield 210, 3) := by decide +kernel
theorem dX7_oneIsOver_29 : decode cX7_oneIsOver 29 = .ok (.aload_n 0, 1) := by decide +kernel
theorem dX7_oneIsOver_30 : decode cX7_oneIsOver 30 = .ok (.sipush 402, 3) := by decide +kernel
theorem dX7_oneIsOver_33 : decode cX7_oneIsOver 33 = .ok (.iconst 0, 1) := by decide +kernel
theorem dX7_oneIsOver_34 : decode cX7_oneIsOver 34 = .ok (.invokevirtual 229, 3) := by decide +kernel
theorem dX7_oneIsOver_37 : decode cX7_oneIsOver 37 = .ok (.goto (-37), 3) := by decide +kernel
theorem dX7_oneIsOver_40 : decode cX7_oneIsOver 40 = .ok (.aload_n 0, 1) := by decide +kernel
theorem dX7_oneIsOver_41 : decode cX7_oneIsOver 41 = .ok (.iconst 2, 1) := by decide +kernel
theorem dX7_oneIsOver_42 : decode cX7_oneIsOver 42 = .ok (.putfield 242, 3) := by decide +kernel
theorem dX7_oneIsOver_45 : decode cX7_oneIsOver 45 = .ok (.return_, 1) := by decide +kernel
theorem dX7_askIsOver_0 : decode cX7_askIsOver 0 = .ok (.aload_n 0, 1) := by decide +kernel
theorem dX7_askIsOver_1 : decode cX7_askIsOver 1 = .ok (.invokevirtual 258, 3) := by decide +kernel
theorem dX7_askIsOver_4 : decode cX7_askIsOver 4 = .ok (.iconst 3, 1) := by decide +kernel
theorem dX7_askIsOver_5 : decode cX7_askIsOver 5 = .ok (.if_icmp .ne 34, 3) := by decide +kernel
theorem dX7_askIsOver_8 : decode cX7_askIsOver 8 = .ok (.aload_n 0, 1) := by decide +kernel
theorem dX7_askIsOver_9 : decode cX7_askIsOver 9 = .ok (.dup, 1) := by decide +kernel
theorem dX7_askIsOver_10 : decode cX7_askIsOver 10 = .ok (.getfield 207, 3) := by decide +kernel
theorem dX7_askIsOver_13 : decode cX7_askIsOver 13 = .ok (.iconst 1, 1) := by decide +kernel
theorem dX7_askIsOver_14 : decode cX7_askIsOver 14 = .ok (.isub, 1) := by decide +kernel
theorem dX7_askIsOver_15 : decode cX7_askIsOver 15 = .ok (.putfield 207, 3) := by decide +kernel
theorem dX7_askIsOver_18 : decode cX7_askIsOver 18 = .ok (.aload_n 0, 1) := by decide +kernel
theorem dX7_askIsOver_19 : decode cX7_askIsOver 19 = .ok (.dup, 1) := by decide +kernel
theorem dX7_askIsOver_20 : decode cX7_askIsOver 20 = .ok (.getfield 210, 3) := by decide +kernel
theorem dX7_askIsOver_23 : decode cX7_askIsOver 23 = .ok (.iconst 1, 1) := by decide +kernel
theorem dX7_askIsOver_24 : decode cX7_askIsOver 24 = .ok (.isub, 1) := by decide +kernel
theorem dX7_askIsOver_25 : decode cX7_askIsOver 25 = .ok (.putfield 210, 3) := by decide +kernel
theorem dX7_askIsOver_28 : decode cX7_askIsOver 28 = .ok (.aload_n 0, 1) := by decide +kernel
theorem dX7_askIsOver_29 : decode cX7_askIsOver 29 = .ok (.sipush 405, 3) := by decide +kernel
theorem dX7_askIsOver_32 : decode cX7_askIsOver 32 = .ok (.iconst 0, 1) := by decide +kernel
theorem dX7_askIsOver_33 : decode cX7_askIsOver 33 = .ok (.invokevirtual 229, 3) := by decide +kernel
theorem dX7_askIsOver_36 : decode cX7_askIsOver 36 = .ok (.goto (-36), 3) := by decide +kernel
theorem dX7_askIsOver_39 : decode cX7_askIsOver 39 = .ok (.aload_n 0, 1) := by decide +kernel
theorem dX7_askIsOver_40 : decode cX7_askIsOver 40 = .ok (.iconst 3, 1) := by decide +kernel
theorem dX7_askIsOver_41 : decode cX7_askIsOver 41 = .ok (.putfield 242, 3) := by decide +kernel
theorem dX7_askIsOver_44 : decode cX7_askIsOver 44 = .ok (.return_, 1) := by decide +kernel
theorem dX7_isAsking_0 : decode cX7_isAsking 0 = .ok (.iload_n 0, 1) := by decide +kernel
theorem dX7_isAsking_1 : decode cX7_isAsking 1 = .ok (.bipush 60, 2) := by decide +kernel
theorem dX7_isAsking_3 : decode cX7_isAsking 3 = .ok (.if_icmp .eq 35, 3) := by decide +kernel
theorem dX7_isAsking_6 : decode cX7_isAsking 6 = .ok (.iload_n 0, 1) := by decide +kernel
theorem dX7_isAsking_7 : decode cX7_isAsking 7 = .ok (.bipush 62, 2) := by decide +kernel
theorem dX7_isAsking_9 : decode cX7_isAsking 9 = .ok (.if_icmp .eq 29, 3) := by decide +kernel
theorem dX7_isAsking_12 : decode cX7_isAsking 12 = .ok (.iload_n 0, 1) := by decide +kernel
theorem dX7_isAsking_13 : decode cX7_isAsking 13 = .ok (.bipush 61, 2) := by decide +kernel
theorem dX7_isAsking_15 : decode cX7_isAsking 15 = .ok (.if_icmp .eq 23, 3) := by decide +kernel
theorem dX7_isAsking_18 : decode cX7_isAsking 18 = .ok (.iload_n 0, 1) := by decide +kernel
theorem dX7_isAsking_19 : decode cX7_isAsking 19 = .ok (.bipush 35, 2) := by decide +kernel
theorem dX7_isAsking_21 : decode cX7_isAsking 21 = .ok (.if_icmp .eq 17, 3) := by decide +kernel
theorem dX7_isAsking_24 : decode cX7_isAsking 24 = .ok (.iload_n 0, 1) := by decide +kernel
theorem dX7_isAsking_25 : decode cX7_isAsking 25 = .ok (.sipush 300, 3) := by decide +kernel
theorem dX7_isAsking_28 : decode cX7_isAsking 28 = .ok (.if_icmp .eq 10, 3) := by decide +kernel
theorem dX7_isAsking_31 : decode cX7_isAsking 31 = .ok (.iload_n 0, 1) := by decide +kernel
theorem dX7_isAsking_32 : decode cX7_isAsking 32 = .ok (.sipush 301, 3) := by decide +kernel
theorem dX7_isAsking_35 : decode cX7_isAsking 35 = .ok (.if_icmp .ne 7, 3) := by decide +kernel
theorem dX7_isAsking_38 : decode cX7_isAsking 38 = .ok (.iconst 1, 1) := by decide +kernel
theorem dX7_isAsking_39 : decode cX7_isAsking 39 = .ok (.goto 4, 3) := by decide +kernel
theorem dX7_isAsking_42 : decode cX7_isAsking 42 = .ok (.iconst 0, 1) := by decide +kernel
theorem dX7_isAsking_43 : decode cX7_isAsking 43 = .ok (.ireturn, 1) := by decide +kernel
theorem dX7_goesOn_0 : decode cX7_goesOn 0 = .ok (.aload_n 0, 1) := by decide +kernel
theorem dX7_goesOn_1 : decode cX7_goesOn 1 = .ok (.invokevirtual 258, 3) := by decide +kernel
theorem dX7_goesOn_4 : decode cX7_goesOn 4 = .ok (.istore_n 1, 1) := by decide +kernel
theorem dX7_goesOn_5 : decode cX7_goesOn 5 = .ok (.aload_n 0, 1) := by decide +kernel
theorem dX7_goesOn_6 : decode cX7_goesOn 6 = .ok (.getfield 182, 3) := by decide +kernel
theorem dX7_goesOn_9 : decode cX7_goesOn 9 = .ok (.iconst 3, 1) := by decide +kernel
theorem dX7_goesOn_10 : decode cX7_goesOn 10 = .ok (.if_icmp .ne 55, 3) := by decide +kernel
theorem dX7_goesOn_13 : decode cX7_goesOn 13 = .ok (.aload_n 0, 1) := by decide +kernel
theorem dX7_goesOn_14 : decode cX7_goesOn 14 = .ok (.getfield 194, 3) := by decide +kernel
theorem dX7_goesOn_17 : decode cX7_goesOn 17 = .ok (.bipush 43, 2) := by decide +kernel
theorem dX7_goesOn_19 : decode cX7_goesOn 19 = .ok (.if_icmp .eq 30, 3) := by decide +kernel
theorem dX7_goesOn_22 : decode cX7_goesOn 22 = .ok (.aload_n 0, 1) := by decide +kernel
theorem dX7_goesOn_23 : decode cX7_goesOn 23 = .ok (.getfield 194, 3) := by decide +kernel
theorem dX7_goesOn_26 : decode cX7_goesOn 26 = .ok (.bipush 45, 2) := by decide +kernel
theorem dX7_goesOn_28 : decode cX7_goesOn 28 = .ok (.if_icmp .eq 21, 3) := by decide +kernel
theorem dX7_goesOn_31 : decode cX7_goesOn 31 = .ok (.aload_n 0, 1) := by decide +kernel
theorem dX7_goesOn_32 : decode cX7_goesOn 32 = .ok (.getfield 194, 3) := by decide +kernel
theorem dX7_goesOn_35 : decode cX7_goesOn 35 = .ok (.bipush 42, 2) := by decide +kernel
theorem dX7_goesOn_37 : decode cX7_goesOn 37 = .ok (.if_icmp .eq 12, 3) := by decide +kernel
theorem dX7_goesOn_40 : decode cX7_goesOn 40 = .ok (.aload_n 0, 1) := by decide +kernel
theorem dX7_goesOn_41 : decode cX7_goesOn 41 = .ok (.getfield 194, 3) := by decide +kernel
theorem dX7_goesOn_44 : decode cX7_goesOn 44 = .ok (.bipush 47, 2) := by decide +kernel
theorem dX7_goesOn_46 : decode cX7_goesOn 46 = .ok (.if_icmp .ne 19, 3) := by decide +kernel
theorem dX7_goesOn_49 : decode cX7_goesOn 49 = .ok (.aload_n 0, 1) := by decide +kernel
theorem dX7_goesOn_50 : decode cX7_goesOn 50 = .ok (.aload_n 0, 1) := by decide +kernel
theorem dX7_goesOn_51 : decode cX7_goesOn 51 = .ok (.getfield 194, 3) := by decide +kernel
theorem dX7_goesOn_54 : decode cX7_goesOn 54 = .ok (.invokevirtual 262, 3) := by decide +kernel
theorem dX7_goesOn_57 : decode cX7_goesOn 57 = .ok (.aload_n 0, 1) := by decide +kernel
theorem dX7_goesOn_58 : decode cX7_goesOn 58 = .ok (.iconst 1, 1) := by decide +kernel
theorem dX7_goesOn_59 : decode cX7_goesOn 59 = .ok (.putfield 242, 3) := by decide +kernel
theorem dX7_goesOn_62 : decode cX7_goesOn 62 = .ok (.goto 188, 3) := by decide +kernel
theorem dX7_goesOn_65 : decode cX7_goesOn 65 = .ok (.iload_n 1, 1) := by decide +kernel
theorem dX7_goesOn_66 : decode cX7_goesOn 66 = .ok (.bipush 6, 2) := by decide +kernel
theorem dX7_goesOn_68 : decode cX7_goesOn 68 = .ok (.if_icmp .ne 48, 3) := by decide +kernel
theorem dX7_goesOn_71 : decode cX7_goesOn 71 = .ok (.aload_n 0, 1) := by decide +kernel
theorem dX7_goesOn_72 : decode cX7_goesOn 72 = .ok (.bipush 41, 2) := by decide +kernel
theorem dX7_goesOn_74 : decode cX7_goesOn 74 = .ok (.invokevirtual 255, 3) := by decide +kernel
theorem dX7_goesOn_77 : decode cX7_goesOn 77 = .ok (.ifCond .eq 39, 3) := by decide +kernel
theorem dX7_goesOn_80 : decode cX7_goesOn 80 = .ok (.aload_n 0, 1) := by decide +kernel
theorem dX7_goesOn_81 : decode cX7_goesOn 81 = .ok (.iconst 3, 1) := by decide +kernel
theorem dX7_goesOn_82 : decode cX7_goesOn 82 = .ok (.invokevirtual 233, 3) := by decide +kernel
theorem dX7_goesOn_85 : decode cX7_goesOn 85 = .ok (.aload_n 0, 1) := by decide +kernel
theorem dX7_goesOn_86 : decode cX7_goesOn 86 = .ok (.dup, 1) := by decide +kernel
theorem dX7_goesOn_87 : decode cX7_goesOn 87 = .ok (.getfield 207, 3) := by decide +kernel
theorem dX7_goesOn_90 : decode cX7_goesOn 90 = .ok (.iconst 1, 1) := by decide +kernel
theorem dX7_goesOn_91 : decode cX7_goesOn 91 = .ok (.isub, 1) := by decide +kernel
theorem dX7_goesOn_92 : decode cX7_goesOn 92 = .ok (.putfield 207, 3) := by decide +kernel
theorem dX7_goesOn_95 : decode cX7_goesOn 95 = .ok (.aload_n 0, 1) := by decide +kernel
theorem dX7_goesOn_96 : decode cX7_goesOn 96 = .ok (.dup, 1) := by decide +kernel
theorem dX7_goesOn_97 : decode cX7_goesOn 97 = .ok (.getfield 210, 3) := by decide +kernel
theorem dX7_goesOn_100 : decode cX7_goesOn 100 = .ok (.iconst 1, 1) := by decide +kernel
theorem dX7_goesOn_101 : decode cX7_goesOn 101 = .ok (.isub, 1) := by decide +kernel
theorem dX7_goesOn_102 : decode cX7_goesOn 102 = .ok (.putfield 210, 3) := by decide +kernel
theorem dX7_goesOn_105 : decode cX7_goesOn 105 = .ok (.aload_n 0, 1) := by decide +kernel
theorem dX7_goesOn_106 : decode cX7_goesOn 106 = .ok (.invokevirtual 219, 3) := by decide +kernel
theorem dX7_goesOn_109 : decode cX7_goesOn 109 = .ok (.aload_n 0, 1) := by decide +kernel
theorem dX7_goesOn_110 : decode cX7_goesOn 110 = .ok (.invokevirtual 245, 3) := by decide +kernel
theorem dX7_goesOn_113 : decode cX7_goesOn 113 = .ok (.goto 137, 3) := by decide +kernel
theorem dX7_goesOn_116 : decode cX7_goesOn 116 = .ok (.iload_n 1, 1) := by decide +kernel
theorem dX7_goesOn_117 : decode cX7_goesOn 117 = .ok (.iconst 4, 1) := by decide +kernel
theorem dX7_goesOn_118 : decode cX7_goesOn 118 = .ok (.if_icmp .ne 63, 3) := by decide +kernel
theorem dX7_goesOn_121 : decode cX7_goesOn 121 = .ok (.aload_n 0, 1) := by decide +kernel
theorem dX7_goesOn_122 : decode cX7_goesOn 122 = .ok (.getfield 182, 3) := by decide +kernel
theorem dX7_goesOn_125 : decode cX7_goesOn 125 = .ok (.iconst 3, 1) := by decide +kernel
theorem dX7_goesOn_126 : decode cX7_goesOn 126 = .ok (.if_icmp .ne 55, 3) := by decide +kernel
theorem dX7_goesOn_129 : decode cX7_goesOn 129 = .ok (.aload_n 0, 1) := by decide +kernel
theorem dX7_goesOn_130 : decode cX7_goesOn 130 = .ok (.getfield 194, 3) := by decide +kernel
theorem dX7_goesOn_133 : decode cX7_goesOn 133 = .ok (.invokestatic 265, 3) := by decide +kernel
theorem dX7_goesOn_136 : decode cX7_goesOn 136 = .ok (.ifCond .eq 45, 3) := by decide +kernel
theorem dX7_goesOn_139 : decode cX7_goesOn 139 = .ok (.aload_n 0, 1) := by decide +kernel
theorem dX7_goesOn_140 : decode cX7_goesOn 140 = .ok (.iconst 3, 1) := by decide +kernel
theorem dX7_goesOn_141 : decode cX7_goesOn 141 = .ok (.invokevirtual 233, 3) := by decide +kernel
theorem dX7_goesOn_144 : decode cX7_goesOn 144 = .ok (.aload_n 0, 1) := by decide +kernel
theorem dX7_goesOn_145 : decode cX7_goesOn 145 = .ok (.getfield 51, 3) := by decide +kernel
theorem dX7_goesOn_148 : decode cX7_goesOn 148 = .ok (.aload_n 0, 1) := by decide +kernel
theorem dX7_goesOn_149 : decode cX7_goesOn 149 = .ok (.getfield 207, 3) := by decide +kernel
theorem dX7_goesOn_152 : decode cX7_goesOn 152 = .ok (.aload_n 0, 1) := by decide +kernel
theorem dX7_goesOn_153 : decode cX7_goesOn 153 = .ok (.getfield 194, 3) := by decide +kernel
theorem dX7_goesOn_156 : decode cX7_goesOn 156 = .ok (.iastore, 1) := by decide +kernel
theorem dX7_goesOn_157 : decode cX7_goesOn 157 = .ok (.aload_n 0, 1) := by decide +kernel
theorem dX7_goesOn_158 : decode cX7_goesOn 158 = .ok (.getfield 48, 3) := by decide +kernel
theorem dX7_goesOn_161 : decode cX7_goesOn 161 = .ok (.aload_n 0, 1) := by decide +kernel
theorem dX7_goesOn_162 : decode cX7_goesOn 162 = .ok (.getfield 207, 3) := by decide +kernel
theorem dX7_goesOn_165 : decode cX7_goesOn 165 = .ok (.iconst 1, 1) := by decide +kernel
theorem dX7_goesOn_166 : decode cX7_goesOn 166 = .ok (.isub, 1) := by decide +kernel
theorem dX7_goesOn_167 : decode cX7_goesOn 167 = .ok (.iconst 5, 1) := by decide +kernel
theorem dX7_goesOn_168 : decode cX7_goesOn 168 = .ok (.iastore, 1) := by decide +kernel
theorem dX7_goesOn_169 : decode cX7_goesOn 169 = .ok (.aload_n 0, 1) := by decide +kernel
theorem dX7_goesOn_170 : decode cX7_goesOn 170 = .ok (.invokevirtual 219, 3) := by decide +kernel
theorem dX7_goesOn_173 : decode cX7_goesOn 173 = .ok (.aload_n 0, 1) := by decide +kernel
theorem dX7_goesOn_174 : decode cX7_goesOn 174 = .ok (.iconst 1, 1) := by decide +kernel
theorem dX7_goesOn_175 : decode cX7_goesOn 175 = .ok (.putfield 242, 3) := by decide +kernel
theorem dX7_goesOn_178 : decode cX7_goesOn 178 = .ok (.goto 72, 3) := by decide +kernel
theorem dX7_goesOn_181 : decode cX7_goesOn 181 = .ok (.iload_n 1, 1) := by decide +kernel
theorem dX7_goesOn_182 : decode cX7_goesOn 182 = .ok (.iconst 5, 1) := by decide +kernel
theorem dX7_goesOn_183 : decode cX7_goesOn 183 = .ok (.if_icmp .ne 41, 3) := by decide +kernel
theorem dX7_goesOn_186 : decode cX7_goesOn 186 = .ok (.aload_n 0, 1) := by decide +kernel
theorem dX7_goesOn_187 : decode cX7_goesOn 187 = .ok (.iconst 3, 1) := by decide +kernel
theorem dX7_goesOn_188 : decode cX7_goesOn 188 = .ok (.invokevirtual 233, 3) := by decide +kernel
theorem dX7_goesOn_191 : decode cX7_goesOn 191 = .ok (.aload_n 0, 1) := by decide +kernel
theorem dX7_goesOn_192 : decode cX7_goesOn 192 = .ok (.getfield 51, 3) := by decide +kernel
theorem dX7_goesOn_195 : decode cX7_goesOn 195 = .ok (.aload_n 0, 1) := by decide +kernel
theorem dX7_goesOn_196 : decode cX7_goesOn 196 = .ok (.getfield 207, 3) := by decide +kernel
theorem dX7_goesOn_199 : decode cX7_goesOn 199 = .ok (.iaload, 1) := by decide +kernel
theorem dX7_goesOn_200 : decode cX7_goesOn 200 = .ok (.istore_n 2, 1) := by decide +kernel
theorem dX7_goesOn_201 : decode cX7_goesOn 201 = .ok (.aload_n 0, 1) := by decide +kernel
theorem dX7_goesOn_202 : decode cX7_goesOn 202 = .ok (.dup, 1) := by decide +kernel
theorem dX7_goesOn_203 : decode cX7_goesOn 203 = .ok (.getfield 207, 3) := by decide +kernel
theorem dX7_goesOn_206 : decode cX7_goesOn 206 = .ok (.iconst 1, 1) := by decide +kernel
theorem dX7_goesOn_207 : decode cX7_goesOn 207 = .ok (.isub, 1) := by decide +kernel
theorem dX7_goesOn_208 : decode cX7_goesOn 208 = .ok (.putfield 207, 3) := by decide +kernel
theorem dX7_goesOn_211 : decode cX7_goesOn 211 = .ok (.aload_n 0, 1) := by decide +kernel
theorem dX7_goesOn_212 : decode cX7_goesOn 212 = .ok (.iload_n 2, 1) := by decide +kernel
theorem dX7_goesOn_213 : decode cX7_goesOn 213 = .ok (.iconst 0, 1) := by decide +kernel
theorem dX7_goesOn_214 : decode cX7_goesOn 214 = .ok (.invokevirtual 229, 3) := by decide +kernel
theorem dX7_goesOn_217 : decode cX7_goesOn 217 = .ok (.aload_n 0, 1) := by decide +kernel
theorem dX7_goesOn_218 : decode cX7_goesOn 218 = .ok (.invokevirtual 268, 3) := by decide +kernel
theorem dX7_goesOn_221 : decode cX7_goesOn 221 = .ok (.goto 29, 3) := by decide +kernel
theorem dX7_goesOn_224 : decode cX7_goesOn 224 = .ok (.iload_n 1, 1) := by decide +kernel
theorem dX7_goesOn_225 : decode cX7_goesOn 225 = .ok (.iconst 1, 1) := by decide +kernel
theorem dX7_goesOn_226 : decode cX7_goesOn 226 = .ok (.if_icmp .ne 19, 3) := by decide +kernel
theorem dX7_goesOn_229 : decode cX7_goesOn 229 = .ok (.aload_n 0, 1) := by decide +kernel
theorem dX7_goesOn_230 : decode cX7_goesOn 230 = .ok (.bipush 59, 2) := by decide +kernel
theorem dX7_goesOn_232 : decode cX7_goesOn 232 = .ok (.invokevirtual 255, 3) := by decide +kernel
theorem dX7_goesOn_235 : decode cX7_goesOn 235 = .ok (.ifCond .eq 10, 3) := by decide +kernel
theorem dX7_goesOn_238 : decode cX7_goesOn 238 = .ok (.aload_n 0, 1) := by decide +kernel
theorem dX7_goesOn_239 : decode cX7_goesOn 239 = .ok (.invokevirtual 271, 3) := by decide +kernel
theorem dX7_goesOn_242 : decode cX7_goesOn 242 = .ok (.goto 8, 3) := by decide +kernel
theorem dX7_goesOn_245 : decode cX7_goesOn 245 = .ok (.aload_n 0, 1) := by decide +kernel
theorem dX7_goesOn_246 : decode cX7_goesOn 246 = .ok (.iconst 1, 1) := by decide +kernel
theorem dX7_goesOn_247 : decode cX7_goesOn 247 = .ok (.invokevirtual 213, 3) := by decide +kernel
theorem dX7_goesOn_250 : decode cX7_goesOn 250 = .ok (.return_, 1) := by decide +kernel
theorem dX7_asksOn_0 : decode cX7_asksOn 0 = .ok (.aload_n 0, 1) := by decide +kernel
theorem dX7_asksOn_1 : decode cX7_asksOn 1 = .ok (.bipush 9, 2) := by decide +kernel
theorem dX7_asksOn_3 : decode cX7_asksOn 3 = .ok (.invokevirtual 236, 3) := by decide +kernel
theorem dX7_asksOn_6 : decode cX7_asksOn 6 = .ok (.ifCond .ne 12, 3) := by decide +kernel
theorem dX7_asksOn_9 : decode cX7_asksOn 9 = .ok (.aload_n 0, 1) := by decide +kernel
theorem dX7_asksOn_10 : decode cX7_asksOn 10 = .ok (.bipush 10, 2) := by decide +kernel
theorem dX7_asksOn_12 : decode cX7_asksOn 12 = .ok (.invokevirtual 236, 3) := by decide +kernel
theorem dX7_asksOn_15 : decode cX7_asksOn 15 = .ok (.ifCond .eq 33, 3) := by decide +kernel
theorem dX7_asksOn_18 : decode cX7_asksOn 18 = .ok (.aload_n 0, 1) := by decide +kernel
theorem dX7_asksOn_19 : decode cX7_asksOn 19 = .ok (.aload_n 0, 1) := by decide +kernel
theorem dX7_asksOn_20 : decode cX7_asksOn 20 = .ok (.bipush 9, 2) := by decide +kernel
theorem dX7_asksOn_22 : decode cX7_asksOn 22 = .ok (.invokevirtual 236, 3) := by decide +kernel
theorem dX7_asksOn_25 : decode cX7_asksOn 25 = .ok (.ifCond .eq 9, 3) := by decide +kernel
theorem dX7_asksOn_28 : decode cX7_asksOn 28 = .ok (.sipush 407, 3) := by decide +kernel
theorem dX7_asksOn_31 : decode cX7_asksOn 31 = .ok (.goto 6, 3) := by decide +kernel
theorem dX7_asksOn_34 : decode cX7_asksOn 34 = .ok (.sipush 406, 3) := by decide +kernel
theorem dX7_asksOn_37 : decode cX7_asksOn 37 = .ok (.invokevirtual 262, 3) := by decide +kernel
theorem dX7_asksOn_40 : decode cX7_asksOn 40 = .ok (.aload_n 0, 1) := by decide +kernel
theorem dX7_asksOn_41 : decode cX7_asksOn 41 = .ok (.iconst 0, 1) := by decide +kernel
theorem dX7_asksOn_42 : decode cX7_asksOn 42 = .ok (.putfield 242, 3) := by decide +kernel
theorem dX7_asksOn_45 : decode cX7_asksOn 45 = .ok (.goto 32, 3) := by decide +kernel
theorem dX7_asksOn_48 : decode cX7_asksOn 48 = .ok (.aload_n 0, 1) := by decide +kernel
theorem dX7_asksOn_49 : decode cX7_asksOn 49 = .ok (.invokevirtual 258, 3) := by decide +kernel
theorem dX7_asksOn_52 : decode cX7_asksOn 52 = .ok (.iconst 2, 1) := by decide +kernel
theorem dX7_asksOn_53 : decode cX7_asksOn 53 = .ok (.if_icmp .ne 19, 3) := by decide +kernel
theorem dX7_asksOn_56 : decode cX7_asksOn 56 = .ok (.aload_n 0, 1) := by decide +kernel
theorem dX7_asksOn_57 : decode cX7_asksOn 57 = .ok (.bipush 59, 2) := by decide +kernel
theorem dX7_asksOn_59 : decode cX7_asksOn 59 = .ok (.invokevirtual 255, 3) := by decide +kernel
theorem dX7_asksOn_62 : decode cX7_asksOn 62 = .ok (.ifCond .eq 10, 3) := by decide +kernel
theorem dX7_asksOn_65 : decode cX7_asksOn 65 = .ok (.aload_n 0, 1) := by decide +kernel
theorem dX7_asksOn_66 : decode cX7_asksOn 66 = .ok (.invokevirtual 271, 3) := by decide +kernel
theorem dX7_asksOn_69 : decode cX7_asksOn 69 = .ok (.goto 8, 3) := by decide +kernel
theorem dX7_asksOn_72 : decode cX7_asksOn 72 = .ok (.aload_n 0, 1) := by decide +kernel
theorem dX7_asksOn_73 : decode cX7_asksOn 73 = .ok (.iconst 1, 1) := by decide +kernel
theorem dX7_asksOn_74 : decode cX7_asksOn 74 = .ok (.invokevirtual 213, 3) := by decide +kernel
theorem dX7_asksOn_77 : decode cX7_asksOn 77 = .ok (.return_, 1) := by decide +kernel
theorem dX7_clauseIsOver_0 : decode cX7_clauseIsOver 0 = .ok (.aload_n 0, 1) := by decide +kernel
theorem dX7_clauseIsOver_1 : decode cX7_clauseIsOver 1 = .ok (.iconst 1, 1) := by decide +kernel
theorem dX7_clauseIsOver_2 : decode cX7_clauseIsOver 2 = .ok (.invokevirtual 233, 3) := by decide +kernel
theorem dX7_clauseIsOver_5 : decode cX7_clauseIsOver 5 = .ok (.aload_n 0, 1) := by decide +kernel
theorem dX7_clauseIsOver_6 : decode cX7_clauseIsOver 6 = .ok (.iconst 0, 1) := by decide +kernel
theorem dX7_clauseIsOver_7 : decode cX7_clauseIsOver 7 = .ok (.putfield 207, 3) := by decide +kernel
theorem dX7_clauseIsOver_10 : decode cX7_clauseIsOver 10 = .ok (.aload_n 0, 1) := by decide +kernel
theorem dX7_clauseIsOver_11 : decode cX7_clauseIsOver 11 = .ok (.sipush 408, 3) := by decide +kernel
theorem dX7_clauseIsOver_14 : decode cX7_clauseIsOver 14 = .ok (.iconst 0, 1) := by decide +kernel
theorem dX7_clauseIsOver_15 : decode cX7_clauseIsOver 15 = .ok (.invokevirtual 229, 3) := by decide +kernel
theorem dX7_clauseIsOver_18 : decode cX7_clauseIsOver 18 = .ok (.aload_n 0, 1) := by decide +kernel
theorem dX7_clauseIsOver_19 : decode cX7_clauseIsOver 19 = .ok (.dup, 1) := by decide +kernel
theorem dX7_clauseIsOver_20 : decode cX7_clauseIsOver 20 = .ok (.getfield 274, 3) := by decide +kernel
theorem dX7_clauseIsOver_23 : decode cX7_clauseIsOver 23 = .ok (.iconst 1, 1) := by decide +kernel
theorem dX7_clauseIsOver_24 : decode cX7_clauseIsOver 24 = .ok (.iadd, 1) := by decide +kernel
theorem dX7_clauseIsOver_25 : decode cX7_clauseIsOver 25 = .ok (.putfield 274, 3) := by decide +kernel
theorem dX7_clauseIsOver_28 : decode cX7_clauseIsOver 28 = .ok (.aload_n 0, 1) := by decide +kernel
theorem dX7_clauseIsOver_29 : decode cX7_clauseIsOver 29 = .ok (.invokevirtual 219, 3) := by decide +kernel
theorem dX7_clauseIsOver_32 : decode cX7_clauseIsOver 32 = .ok (.aload_n 0, 1) := by decide +kernel
theorem dX7_clauseIsOver_33 : decode cX7_clauseIsOver 33 = .ok (.iconst 4, 1) := by decide +kernel
theorem dX7_clauseIsOver_34 : decode cX7_clauseIsOver 34 = .ok (.putfield 242, 3) := by decide +kernel
theorem dX7_clauseIsOver_37 : decode cX7_clauseIsOver 37 = .ok (.return_, 1) := by decide +kernel
theorem dX7_number_0 : decode cX7_number 0 = .ok (.aload_n 0, 1) := by decide +kernel
theorem dX7_number_1 : decode cX7_number 1 = .ok (.getfield 198, 3) := by decide +kernel
theorem dX7_number_4 : decode cX7_number 4 = .ok (.ifCond .gt 11, 3) := by decide +kernel
theorem dX7_number_7 : decode cX7_number 7 = .ok (.aload_n 0, 1) := by decide +kernel
theorem dX7_number_8 : decode cX7_number 8 = .ok (.getfield 182, 3) := by decide +kernel
theorem dX7_number_11 : decode cX7_number 11 = .ok (.iconst 2, 1) := by decide +kernel
theorem dX7_number_12 : decode cX7_number 12 = .ok (.if_icmp .eq 10, 3) := by decide +kernel
theorem dX7_number_15 : decode cX7_number 15 = .ok (.aload_n 0, 1) := by decide +kernel
theorem dX7_number_16 : decode cX7_number 16 = .ok (.iconst 1, 1) := by decide +kernel
theorem dX7_number_17 : decode cX7_number 17 = .ok (.invokevirtual 213, 3) := by decide +kernel
theorem dX7_number_20 : decode cX7_number 20 = .ok (.iload_n 1, 1) := by decide +kernel
theorem dX7_number_21 : decode cX7_number 21 = .ok (.ireturn, 1) := by decide +kernel
theorem dX7_number_22 : decode cX7_number 22 = .ok (.aload_n 0, 1) := by decide +kernel
theorem dX7_number_23 : decode cX7_number 23 = .ok (.getfield 194, 3) := by decide +kernel
theorem dX7_number_26 : decode cX7_number 26 = .ok (.iload_n 1, 1) := by decide +kernel
theorem dX7_number_27 : decode cX7_number 27 = .ok (.iload_n 2, 1) := by decide +kernel
theorem dX7_number_28 : decode cX7_number 28 = .ok (.invokestatic 110, 3) := by decide +kernel
theorem dX7_number_31 : decode cX7_number 31 = .ok (.ifCond .ne 10, 3) := by decide +kernel
theorem dX7_number_34 : decode cX7_number 34 = .ok (.aload_n 0, 1) := by decide +kernel
theorem dX7_number_35 : decode cX7_number 35 = .ok (.iconst 2, 1) := by decide +kernel
theorem dX7_number_36 : decode cX7_number 36 = .ok (.invokevirtual 213, 3) := by decide +kernel
theorem dX7_number_39 : decode cX7_number 39 = .ok (.iload_n 1, 1) := by decide +kernel
theorem dX7_number_40 : decode cX7_number 40 = .ok (.ireturn, 1) := by decide +kernel
theorem dX7_number_41 : decode cX7_number 41 = .ok (.aload_n 0, 1) := by decide +kernel
theorem dX7_number_42 : decode cX7_number 42 = .ok (.getfield 194, 3) := by decide +kernel
theorem dX7_number_45 : decode cX7_number 45 = .ok (.istore_n 3, 1) := by decide +kernel
theorem dX7_number_46 : decode cX7_number 46 = .ok (.aload_n 0, 1) := by decide +kernel
theorem dX7_number_47 : decode cX7_number 47 = .ok (.invokevirtual 219, 3) := by decide +kernel
theorem dX7_number_50 : decode cX7_number 50 = .ok (.iload_n 3, 1) := by decide +kernel
theorem dX7_number_51 : decode cX7_number 51 = .ok (.ireturn, 1) := by decide +kernel
