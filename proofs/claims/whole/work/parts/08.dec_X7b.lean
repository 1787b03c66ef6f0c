theorem dX7_wasTold_0 : decode cX7_wasTold 0 = .ok (.iconst 0, 1) := by decide +kernel
theorem dX7_wasTold_1 : decode cX7_wasTold 1 = .ok (.istore_n 2, 1) := by decide +kernel
theorem dX7_wasTold_2 : decode cX7_wasTold 2 = .ok (.iconst 0, 1) := by decide +kernel
theorem dX7_wasTold_3 : decode cX7_wasTold 3 = .ok (.istore_n 3, 1) := by decide +kernel
theorem dX7_wasTold_4 : decode cX7_wasTold 4 = .ok (.iload_n 3, 1) := by decide +kernel
theorem dX7_wasTold_5 : decode cX7_wasTold 5 = .ok (.aload_n 0, 1) := by decide +kernel
theorem dX7_wasTold_6 : decode cX7_wasTold 6 = .ok (.getfield 274, 3) := by decide +kernel
theorem dX7_wasTold_9 : decode cX7_wasTold 9 = .ok (.if_icmp .ge 29, 3) := by decide +kernel
theorem dX7_wasTold_12 : decode cX7_wasTold 12 = .ok (.iload_n 2, 1) := by decide +kernel
theorem dX7_wasTold_13 : decode cX7_wasTold 13 = .ok (.ifCond .ne 13, 3) := by decide +kernel
theorem dX7_wasTold_16 : decode cX7_wasTold 16 = .ok (.aload_n 0, 1) := by decide +kernel
theorem dX7_wasTold_17 : decode cX7_wasTold 17 = .ok (.getfield 60, 3) := by decide +kernel
theorem dX7_wasTold_20 : decode cX7_wasTold 20 = .ok (.iload_n 3, 1) := by decide +kernel
theorem dX7_wasTold_21 : decode cX7_wasTold 21 = .ok (.iaload, 1) := by decide +kernel
theorem dX7_wasTold_22 : decode cX7_wasTold 22 = .ok (.iload_n 1, 1) := by decide +kernel
theorem dX7_wasTold_23 : decode cX7_wasTold 23 = .ok (.if_icmp .ne 7, 3) := by decide +kernel
theorem dX7_wasTold_26 : decode cX7_wasTold 26 = .ok (.iconst 1, 1) := by decide +kernel
theorem dX7_wasTold_27 : decode cX7_wasTold 27 = .ok (.goto 4, 3) := by decide +kernel
theorem dX7_wasTold_30 : decode cX7_wasTold 30 = .ok (.iconst 0, 1) := by decide +kernel
theorem dX7_wasTold_31 : decode cX7_wasTold 31 = .ok (.istore_n 2, 1) := by decide +kernel
theorem dX7_wasTold_32 : decode cX7_wasTold 32 = .ok (.iinc 3 1, 3) := by decide +kernel
theorem dX7_wasTold_35 : decode cX7_wasTold 35 = .ok (.goto (-31), 3) := by decide +kernel
theorem dX7_wasTold_38 : decode cX7_wasTold 38 = .ok (.iload_n 2, 1) := by decide +kernel
theorem dX7_wasTold_39 : decode cX7_wasTold 39 = .ok (.ireturn, 1) := by decide +kernel
theorem dX7_wants_0 : decode cX7_wants 0 = .ok (.aload_n 0, 1) := by decide +kernel
theorem dX7_wants_1 : decode cX7_wants 1 = .ok (.getfield 198, 3) := by decide +kernel
theorem dX7_wants_4 : decode cX7_wants 4 = .ok (.ifCond .ne 16, 3) := by decide +kernel
theorem dX7_wants_7 : decode cX7_wants 7 = .ok (.aload_n 0, 1) := by decide +kernel
theorem dX7_wants_8 : decode cX7_wants 8 = .ok (.iload_n 1, 1) := by decide +kernel
theorem dX7_wants_9 : decode cX7_wants 9 = .ok (.invokevirtual 236, 3) := by decide +kernel
theorem dX7_wants_12 : decode cX7_wants 12 = .ok (.ifCond .ne 8, 3) := by decide +kernel
theorem dX7_wants_15 : decode cX7_wants 15 = .ok (.aload_n 0, 1) := by decide +kernel
theorem dX7_wants_16 : decode cX7_wants 16 = .ok (.iconst 1, 1) := by decide +kernel
theorem dX7_wants_17 : decode cX7_wants 17 = .ok (.invokevirtual 213, 3) := by decide +kernel
theorem dX7_wants_20 : decode cX7_wants 20 = .ok (.aload_n 0, 1) := by decide +kernel
theorem dX7_wants_21 : decode cX7_wants 21 = .ok (.getfield 198, 3) := by decide +kernel
theorem dX7_wants_24 : decode cX7_wants 24 = .ok (.ifCond .ne 7, 3) := by decide +kernel
theorem dX7_wants_27 : decode cX7_wants 27 = .ok (.aload_n 0, 1) := by decide +kernel
theorem dX7_wants_28 : decode cX7_wants 28 = .ok (.invokevirtual 219, 3) := by decide +kernel
theorem dX7_wants_31 : decode cX7_wants 31 = .ok (.return_, 1) := by decide +kernel
theorem dX7_clause_0 : decode cX7_clause 0 = .ok (.aload_n 0, 1) := by decide +kernel
theorem dX7_clause_1 : decode cX7_clause 1 = .ok (.getfield 182, 3) := by decide +kernel
theorem dX7_clause_4 : decode cX7_clause 4 = .ok (.iconst 1, 1) := by decide +kernel
theorem dX7_clause_5 : decode cX7_clause 5 = .ok (.if_icmp .ne 12, 3) := by decide +kernel
theorem dX7_clause_8 : decode cX7_clause 8 = .ok (.aload_n 0, 1) := by decide +kernel
theorem dX7_clause_9 : decode cX7_clause 9 = .ok (.getfield 194, 3) := by decide +kernel
theorem dX7_clause_12 : decode cX7_clause 12 = .ok (.bipush 6, 2) := by decide +kernel
theorem dX7_clause_14 : decode cX7_clause 14 = .ok (.if_icmp .le 9, 3) := by decide +kernel
theorem dX7_clause_17 : decode cX7_clause 17 = .ok (.aload_n 0, 1) := by decide +kernel
theorem dX7_clause_18 : decode cX7_clause 18 = .ok (.iconst 1, 1) := by decide +kernel
theorem dX7_clause_19 : decode cX7_clause 19 = .ok (.invokevirtual 213, 3) := by decide +kernel
theorem dX7_clause_22 : decode cX7_clause 22 = .ok (.return_, 1) := by decide +kernel
theorem dX7_clause_23 : decode cX7_clause 23 = .ok (.aload_n 0, 1) := by decide +kernel
theorem dX7_clause_24 : decode cX7_clause 24 = .ok (.aload_n 0, 1) := by decide +kernel
theorem dX7_clause_25 : decode cX7_clause 25 = .ok (.getfield 194, 3) := by decide +kernel
theorem dX7_clause_28 : decode cX7_clause 28 = .ok (.putfield 248, 3) := by decide +kernel
theorem dX7_clause_31 : decode cX7_clause 31 = .ok (.aload_n 0, 1) := by decide +kernel
theorem dX7_clause_32 : decode cX7_clause 32 = .ok (.getfield 248, 3) := by decide +kernel
theorem dX7_clause_35 : decode cX7_clause 35 = .ok (.iconst 2, 1) := by decide +kernel
theorem dX7_clause_36 : decode cX7_clause 36 = .ok (.if_icmp .gt 22, 3) := by decide +kernel
theorem dX7_clause_39 : decode cX7_clause 39 = .ok (.aload_n 0, 1) := by decide +kernel
theorem dX7_clause_40 : decode cX7_clause 40 = .ok (.aload_n 0, 1) := by decide +kernel
theorem dX7_clause_41 : decode cX7_clause 41 = .ok (.getfield 248, 3) := by decide +kernel
theorem dX7_clause_44 : decode cX7_clause 44 = .ok (.invokevirtual 277, 3) := by decide +kernel
theorem dX7_clause_47 : decode cX7_clause 47 = .ok (.ifCond .eq 11, 3) := by decide +kernel
theorem dX7_clause_50 : decode cX7_clause 50 = .ok (.aload_n 0, 1) := by decide +kernel
theorem dX7_clause_51 : decode cX7_clause 51 = .ok (.iconst 4, 1) := by decide +kernel
theorem dX7_clause_52 : decode cX7_clause 52 = .ok (.invokevirtual 213, 3) := by decide +kernel
theorem dX7_clause_55 : decode cX7_clause 55 = .ok (.goto 18, 3) := by decide +kernel
theorem dX7_clause_58 : decode cX7_clause 58 = .ok (.aload_n 0, 1) := by decide +kernel
theorem dX7_clause_59 : decode cX7_clause 59 = .ok (.getfield 274, 3) := by decide +kernel
theorem dX7_clause_62 : decode cX7_clause 62 = .ok (.bipush 24, 2) := by decide +kernel
theorem dX7_clause_64 : decode cX7_clause 64 = .ok (.if_icmp .ne 9, 3) := by decide +kernel
theorem dX7_clause_67 : decode cX7_clause 67 = .ok (.aload_n 0, 1) := by decide +kernel
theorem dX7_clause_68 : decode cX7_clause 68 = .ok (.bipush 6, 2) := by decide +kernel
theorem dX7_clause_70 : decode cX7_clause 70 = .ok (.invokevirtual 213, 3) := by decide +kernel
theorem dX7_clause_73 : decode cX7_clause 73 = .ok (.aload_n 0, 1) := by decide +kernel
theorem dX7_clause_74 : decode cX7_clause 74 = .ok (.getfield 198, 3) := by decide +kernel
theorem dX7_clause_77 : decode cX7_clause 77 = .ok (.ifCond .le 4, 3) := by decide +kernel
theorem dX7_clause_80 : decode cX7_clause 80 = .ok (.return_, 1) := by decide +kernel
theorem dX7_clause_81 : decode cX7_clause 81 = .ok (.aload_n 0, 1) := by decide +kernel
theorem dX7_clause_82 : decode cX7_clause 82 = .ok (.getfield 60, 3) := by decide +kernel
theorem dX7_clause_85 : decode cX7_clause 85 = .ok (.aload_n 0, 1) := by decide +kernel
theorem dX7_clause_86 : decode cX7_clause 86 = .ok (.getfield 274, 3) := by decide +kernel
theorem dX7_clause_89 : decode cX7_clause 89 = .ok (.aload_n 0, 1) := by decide +kernel
theorem dX7_clause_90 : decode cX7_clause 90 = .ok (.getfield 248, 3) := by decide +kernel
theorem dX7_clause_93 : decode cX7_clause 93 = .ok (.iastore, 1) := by decide +kernel
theorem dX7_clause_94 : decode cX7_clause 94 = .ok (.aload_n 0, 1) := by decide +kernel
theorem dX7_clause_95 : decode cX7_clause 95 = .ok (.getfield 63, 3) := by decide +kernel
theorem dX7_clause_98 : decode cX7_clause 98 = .ok (.aload_n 0, 1) := by decide +kernel
theorem dX7_clause_99 : decode cX7_clause 99 = .ok (.getfield 274, 3) := by decide +kernel
theorem dX7_clause_102 : decode cX7_clause 102 = .ok (.aload_n 0, 1) := by decide +kernel
theorem dX7_clause_103 : decode cX7_clause 103 = .ok (.getfield 204, 3) := by decide +kernel
theorem dX7_clause_106 : decode cX7_clause 106 = .ok (.iastore, 1) := by decide +kernel
theorem dX7_clause_107 : decode cX7_clause 107 = .ok (.aload_n 0, 1) := by decide +kernel
theorem dX7_clause_108 : decode cX7_clause 108 = .ok (.getfield 66, 3) := by decide +kernel
theorem dX7_clause_111 : decode cX7_clause 111 = .ok (.aload_n 0, 1) := by decide +kernel
theorem dX7_clause_112 : decode cX7_clause 112 = .ok (.getfield 274, 3) := by decide +kernel
theorem dX7_clause_115 : decode cX7_clause 115 = .ok (.iconst (-1), 1) := by decide +kernel
theorem dX7_clause_116 : decode cX7_clause 116 = .ok (.iastore, 1) := by decide +kernel
theorem dX7_clause_117 : decode cX7_clause 117 = .ok (.aload_n 0, 1) := by decide +kernel
theorem dX7_clause_118 : decode cX7_clause 118 = .ok (.getfield 69, 3) := by decide +kernel
theorem dX7_clause_121 : decode cX7_clause 121 = .ok (.aload_n 0, 1) := by decide +kernel
theorem dX7_clause_122 : decode cX7_clause 122 = .ok (.getfield 274, 3) := by decide +kernel
theorem dX7_clause_125 : decode cX7_clause 125 = .ok (.iconst (-1), 1) := by decide +kernel
theorem dX7_clause_126 : decode cX7_clause 126 = .ok (.iastore, 1) := by decide +kernel
theorem dX7_clause_127 : decode cX7_clause 127 = .ok (.aload_n 0, 1) := by decide +kernel
theorem dX7_clause_128 : decode cX7_clause 128 = .ok (.invokevirtual 219, 3) := by decide +kernel
theorem dX7_clause_131 : decode cX7_clause 131 = .ok (.aload_n 0, 1) := by decide +kernel
theorem dX7_clause_132 : decode cX7_clause 132 = .ok (.getfield 248, 3) := by decide +kernel
theorem dX7_clause_135 : decode cX7_clause 135 = .ok (.iconst 2, 1) := by decide +kernel
theorem dX7_clause_136 : decode cX7_clause 136 = .ok (.if_icmp .gt 38, 3) := by decide +kernel
theorem dX7_clause_139 : decode cX7_clause 139 = .ok (.aload_n 0, 1) := by decide +kernel
theorem dX7_clause_140 : decode cX7_clause 140 = .ok (.aload_n 0, 1) := by decide +kernel
theorem dX7_clause_141 : decode cX7_clause 141 = .ok (.getfield 248, 3) := by decide +kernel
theorem dX7_clause_144 : decode cX7_clause 144 = .ok (.iconst 2, 1) := by decide +kernel
theorem dX7_clause_145 : decode cX7_clause 145 = .ok (.if_icmp .ne 7, 3) := by decide +kernel
theorem dX7_clause_148 : decode cX7_clause 148 = .ok (.iconst 2, 1) := by decide +kernel
theorem dX7_clause_149 : decode cX7_clause 149 = .ok (.goto 4, 3) := by decide +kernel
theorem dX7_clause_152 : decode cX7_clause 152 = .ok (.iconst 1, 1) := by decide +kernel
theorem dX7_clause_153 : decode cX7_clause 153 = .ok (.invokevirtual 216, 3) := by decide +kernel
theorem dX7_clause_156 : decode cX7_clause 156 = .ok (.aload_n 0, 1) := by decide +kernel
theorem dX7_clause_157 : decode cX7_clause 157 = .ok (.aload_n 0, 1) := by decide +kernel
theorem dX7_clause_158 : decode cX7_clause 158 = .ok (.getfield 248, 3) := by decide +kernel
theorem dX7_clause_161 : decode cX7_clause 161 = .ok (.iconst 2, 1) := by decide +kernel
theorem dX7_clause_162 : decode cX7_clause 162 = .ok (.if_icmp .ne 7, 3) := by decide +kernel
theorem dX7_clause_165 : decode cX7_clause 165 = .ok (.iconst 0, 1) := by decide +kernel
theorem dX7_clause_166 : decode cX7_clause 166 = .ok (.goto 4, 3) := by decide +kernel
theorem dX7_clause_169 : decode cX7_clause 169 = .ok (.iconst 1, 1) := by decide +kernel
theorem dX7_clause_170 : decode cX7_clause 170 = .ok (.putfield 242, 3) := by decide +kernel
theorem dX7_clause_173 : decode cX7_clause 173 = .ok (.return_, 1) := by decide +kernel
theorem dX7_clause_174 : decode cX7_clause 174 = .ok (.aload_n 0, 1) := by decide +kernel
theorem dX7_clause_175 : decode cX7_clause 175 = .ok (.getfield 66, 3) := by decide +kernel
theorem dX7_clause_178 : decode cX7_clause 178 = .ok (.aload_n 0, 1) := by decide +kernel
theorem dX7_clause_179 : decode cX7_clause 179 = .ok (.getfield 274, 3) := by decide +kernel
theorem dX7_clause_182 : decode cX7_clause 182 = .ok (.aload_n 0, 1) := by decide +kernel
theorem dX7_clause_183 : decode cX7_clause 183 = .ok (.getfield 248, 3) := by decide +kernel
theorem dX7_clause_186 : decode cX7_clause 186 = .ok (.bipush 6, 2) := by decide +kernel
theorem dX7_clause_188 : decode cX7_clause 188 = .ok (.if_icmp .ne 13, 3) := by decide +kernel
theorem dX7_clause_191 : decode cX7_clause 191 = .ok (.aload_n 0, 1) := by decide +kernel
theorem dX7_clause_192 : decode cX7_clause 192 = .ok (.iconst 1, 1) := by decide +kernel
theorem dX7_clause_193 : decode cX7_clause 193 = .ok (.bipush 40, 2) := by decide +kernel
theorem dX7_clause_195 : decode cX7_clause 195 = .ok (.invokevirtual 280, 3) := by decide +kernel
theorem dX7_clause_198 : decode cX7_clause 198 = .ok (.goto 22, 3) := by decide +kernel
theorem dX7_clause_201 : decode cX7_clause 201 = .ok (.aload_n 0, 1) := by decide +kernel
theorem dX7_clause_202 : decode cX7_clause 202 = .ok (.iconst 0, 1) := by decide +kernel
theorem dX7_clause_203 : decode cX7_clause 203 = .ok (.aload_n 0, 1) := by decide +kernel
theorem dX7_clause_204 : decode cX7_clause 204 = .ok (.getfield 248, 3) := by decide +kernel
theorem dX7_clause_207 : decode cX7_clause 207 = .ok (.iconst 5, 1) := by decide +kernel
theorem dX7_clause_208 : decode cX7_clause 208 = .ok (.if_icmp .ne 7, 3) := by decide +kernel
theorem dX7_clause_211 : decode cX7_clause 211 = .ok (.iconst 1, 1) := by decide +kernel
theorem dX7_clause_212 : decode cX7_clause 212 = .ok (.goto 5, 3) := by decide +kernel
theorem dX7_clause_215 : decode cX7_clause 215 = .ok (.bipush 8, 2) := by decide +kernel
theorem dX7_clause_217 : decode cX7_clause 217 = .ok (.invokevirtual 280, 3) := by decide +kernel
theorem dX7_clause_220 : decode cX7_clause 220 = .ok (.iastore, 1) := by decide +kernel
theorem dX7_clause_221 : decode cX7_clause 221 = .ok (.aload_n 0, 1) := by decide +kernel
theorem dX7_clause_222 : decode cX7_clause 222 = .ok (.getfield 248, 3) := by decide +kernel
theorem dX7_clause_225 : decode cX7_clause 225 = .ok (.iconst 3, 1) := by decide +kernel
theorem dX7_clause_226 : decode cX7_clause 226 = .ok (.if_icmp .eq 11, 3) := by decide +kernel
theorem dX7_clause_229 : decode cX7_clause 229 = .ok (.aload_n 0, 1) := by decide +kernel
theorem dX7_clause_230 : decode cX7_clause 230 = .ok (.getfield 248, 3) := by decide +kernel
theorem dX7_clause_233 : decode cX7_clause 233 = .ok (.iconst 4, 1) := by decide +kernel
theorem dX7_clause_234 : decode cX7_clause 234 = .ok (.if_icmp .ne 49, 3) := by decide +kernel
theorem dX7_clause_237 : decode cX7_clause 237 = .ok (.aload_n 0, 1) := by decide +kernel
theorem dX7_clause_238 : decode cX7_clause 238 = .ok (.aload_n 0, 1) := by decide +kernel
theorem dX7_clause_239 : decode cX7_clause 239 = .ok (.getfield 248, 3) := by decide +kernel
theorem dX7_clause_242 : decode cX7_clause 242 = .ok (.iconst 3, 1) := by decide +kernel
theorem dX7_clause_243 : decode cX7_clause 243 = .ok (.if_icmp .ne 8, 3) := by decide +kernel
theorem dX7_clause_246 : decode cX7_clause 246 = .ok (.bipush 7, 2) := by decide +kernel
theorem dX7_clause_248 : decode cX7_clause 248 = .ok (.goto 5, 3) := by decide +kernel
theorem dX7_clause_251 : decode cX7_clause 251 = .ok (.bipush 8, 2) := by decide +kernel
theorem dX7_clause_253 : decode cX7_clause 253 = .ok (.invokevirtual 284, 3) := by decide +kernel
theorem dX7_clause_256 : decode cX7_clause 256 = .ok (.aload_n 0, 1) := by decide +kernel
theorem dX7_clause_257 : decode cX7_clause 257 = .ok (.getfield 69, 3) := by decide +kernel
theorem dX7_clause_260 : decode cX7_clause 260 = .ok (.aload_n 0, 1) := by decide +kernel
theorem dX7_clause_261 : decode cX7_clause 261 = .ok (.getfield 274, 3) := by decide +kernel
theorem dX7_clause_264 : decode cX7_clause 264 = .ok (.aload_n 0, 1) := by decide +kernel
theorem dX7_clause_265 : decode cX7_clause 265 = .ok (.iconst 0, 1) := by decide +kernel
theorem dX7_clause_266 : decode cX7_clause 266 = .ok (.aload_n 0, 1) := by decide +kernel
theorem dX7_clause_267 : decode cX7_clause 267 = .ok (.getfield 248, 3) := by decide +kernel
theorem dX7_clause_270 : decode cX7_clause 270 = .ok (.iconst 3, 1) := by decide +kernel
theorem dX7_clause_271 : decode cX7_clause 271 = .ok (.if_icmp .ne 7, 3) := by decide +kernel
theorem dX7_clause_274 : decode cX7_clause 274 = .ok (.iconst 2, 1) := by decide +kernel
theorem dX7_clause_275 : decode cX7_clause 275 = .ok (.goto 4, 3) := by decide +kernel
theorem dX7_clause_278 : decode cX7_clause 278 = .ok (.iconst 1, 1) := by decide +kernel
theorem dX7_clause_279 : decode cX7_clause 279 = .ok (.invokevirtual 280, 3) := by decide +kernel
theorem dX7_clause_282 : decode cX7_clause 282 = .ok (.iastore, 1) := by decide +kernel
theorem dX7_clause_283 : decode cX7_clause 283 = .ok (.aload_n 0, 1) := by decide +kernel
theorem dX7_clause_284 : decode cX7_clause 284 = .ok (.getfield 198, 3) := by decide +kernel
theorem dX7_clause_287 : decode cX7_clause 287 = .ok (.ifCond .ne 17, 3) := by decide +kernel
theorem dX7_clause_290 : decode cX7_clause 290 = .ok (.aload_n 0, 1) := by decide +kernel
theorem dX7_clause_291 : decode cX7_clause 291 = .ok (.bipush 59, 2) := by decide +kernel
theorem dX7_clause_293 : decode cX7_clause 293 = .ok (.invokevirtual 255, 3) := by decide +kernel
theorem dX7_clause_296 : decode cX7_clause 296 = .ok (.ifCond .ne 8, 3) := by decide +kernel
theorem dX7_clause_299 : decode cX7_clause 299 = .ok (.aload_n 0, 1) := by decide +kernel
theorem dX7_clause_300 : decode cX7_clause 300 = .ok (.iconst 1, 1) := by decide +kernel
theorem dX7_clause_301 : decode cX7_clause 301 = .ok (.invokevirtual 213, 3) := by decide +kernel
theorem dX7_clause_304 : decode cX7_clause 304 = .ok (.aload_n 0, 1) := by decide +kernel
theorem dX7_clause_305 : decode cX7_clause 305 = .ok (.getfield 198, 3) := by decide +kernel
theorem dX7_clause_308 : decode cX7_clause 308 = .ok (.ifCond .ne 7, 3) := by decide +kernel
theorem dX7_clause_311 : decode cX7_clause 311 = .ok (.aload_n 0, 1) := by decide +kernel
theorem dX7_clause_312 : decode cX7_clause 312 = .ok (.invokevirtual 271, 3) := by decide +kernel
theorem dX7_clause_315 : decode cX7_clause 315 = .ok (.return_, 1) := by decide +kernel
theorem dX7_text_0 : decode cX7_text 0 = .ok (.aload_n 0, 1) := by decide +kernel
theorem dX7_text_1 : decode cX7_text 1 = .ok (.getfield 7, 3) := by decide +kernel
theorem dX7_text_4 : decode cX7_text 4 = .ok (.iconst 1, 1) := by decide +kernel
theorem dX7_text_5 : decode cX7_text 5 = .ok (.iaload, 1) := by decide +kernel
theorem dX7_text_6 : decode cX7_text 6 = .ok (.iconst 4, 1) := by decide +kernel
theorem dX7_text_7 : decode cX7_text 7 = .ok (.if_icmp .ne 5, 3) := by decide +kernel
theorem dX7_text_10 : decode cX7_text 10 = .ok (.iconst (-1), 1) := by decide +kernel
theorem dX7_text_11 : decode cX7_text 11 = .ok (.ireturn, 1) := by decide +kernel
theorem dX7_text_12 : decode cX7_text 12 = .ok (.aload_n 0, 1) := by decide +kernel
theorem dX7_text_13 : decode cX7_text 13 = .ok (.aload_n 0, 1) := by decide +kernel
theorem dX7_text_14 : decode cX7_text 14 = .ok (.getfield 118, 3) := by decide +kernel
theorem dX7_text_17 : decode cX7_text 17 = .ok (.putfield 176, 3) := by decide +kernel
theorem dX7_text_20 : decode cX7_text 20 = .ok (.aload_n 0, 1) := by decide +kernel
theorem dX7_text_21 : decode cX7_text 21 = .ok (.iconst 0, 1) := by decide +kernel
theorem dX7_text_22 : decode cX7_text 22 = .ok (.putfield 118, 3) := by decide +kernel
theorem dX7_text_25 : decode cX7_text 25 = .ok (.aload_n 0, 1) := by decide +kernel
theorem dX7_text_26 : decode cX7_text 26 = .ok (.iconst 0, 1) := by decide +kernel
theorem dX7_text_27 : decode cX7_text 27 = .ok (.putfield 173, 3) := by decide +kernel
theorem dX7_text_30 : decode cX7_text 30 = .ok (.aload_n 0, 1) := by decide +kernel
theorem dX7_text_31 : decode cX7_text 31 = .ok (.iconst 0, 1) := by decide +kernel
theorem dX7_text_32 : decode cX7_text 32 = .ok (.putfield 198, 3) := by decide +kernel
theorem dX7_text_35 : decode cX7_text 35 = .ok (.aload_n 0, 1) := by decide +kernel
theorem dX7_text_36 : decode cX7_text 36 = .ok (.iconst (-1), 1) := by decide +kernel
theorem dX7_text_37 : decode cX7_text 37 = .ok (.putfield 201, 3) := by decide +kernel
theorem dX7_text_40 : decode cX7_text 40 = .ok (.aload_n 0, 1) := by decide +kernel
theorem dX7_text_41 : decode cX7_text 41 = .ok (.iconst 0, 1) := by decide +kernel
theorem dX7_text_42 : decode cX7_text 42 = .ok (.putfield 210, 3) := by decide +kernel
theorem dX7_text_45 : decode cX7_text 45 = .ok (.aload_n 0, 1) := by decide +kernel
theorem dX7_text_46 : decode cX7_text 46 = .ok (.iconst 0, 1) := by decide +kernel
theorem dX7_text_47 : decode cX7_text 47 = .ok (.putfield 207, 3) := by decide +kernel
theorem dX7_text_50 : decode cX7_text 50 = .ok (.aload_n 0, 1) := by decide +kernel
theorem dX7_text_51 : decode cX7_text 51 = .ok (.iconst 0, 1) := by decide +kernel
theorem dX7_text_52 : decode cX7_text 52 = .ok (.putfield 222, 3) := by decide +kernel
theorem dX7_text_55 : decode cX7_text 55 = .ok (.aload_n 0, 1) := by decide +kernel
theorem dX7_text_56 : decode cX7_text 56 = .ok (.iconst 4, 1) := by decide +kernel
theorem dX7_text_57 : decode cX7_text 57 = .ok (.putfield 242, 3) := by decide +kernel
theorem dX7_text_60 : decode cX7_text 60 = .ok (.aload_n 0, 1) := by decide +kernel
theorem dX7_text_61 : decode cX7_text 61 = .ok (.iconst 0, 1) := by decide +kernel
theorem dX7_text_62 : decode cX7_text 62 = .ok (.putfield 274, 3) := by decide +kernel
theorem dX7_text_65 : decode cX7_text 65 = .ok (.aload_n 0, 1) := by decide +kernel
theorem dX7_text_66 : decode cX7_text 66 = .ok (.iconst 0, 1) := by decide +kernel
theorem dX7_text_67 : decode cX7_text 67 = .ok (.putfield 204, 3) := by decide +kernel
theorem dX7_text_70 : decode cX7_text 70 = .ok (.aload_n 0, 1) := by decide +kernel
theorem dX7_text_71 : decode cX7_text 71 = .ok (.invokevirtual 219, 3) := by decide +kernel
theorem dX7_text_74 : decode cX7_text 74 = .ok (.aload_n 0, 1) := by decide +kernel
theorem dX7_text_75 : decode cX7_text 75 = .ok (.getfield 198, 3) := by decide +kernel
theorem dX7_text_78 : decode cX7_text 78 = .ok (.ifCond .ne 89, 3) := by decide +kernel
theorem dX7_text_81 : decode cX7_text 81 = .ok (.aload_n 0, 1) := by decide +kernel
theorem dX7_text_82 : decode cX7_text 82 = .ok (.getfield 242, 3) := by decide +kernel
theorem dX7_text_85 : decode cX7_text 85 = .ok (.iconst 4, 1) := by decide +kernel
theorem dX7_text_86 : decode cX7_text 86 = .ok (.if_icmp .ne 10, 3) := by decide +kernel
theorem dX7_text_89 : decode cX7_text 89 = .ok (.aload_n 0, 1) := by decide +kernel
theorem dX7_text_90 : decode cX7_text 90 = .ok (.getfield 182, 3) := by decide +kernel
theorem dX7_text_93 : decode cX7_text 93 = .ok (.ifCond .eq 74, 3) := by decide +kernel
theorem dX7_text_96 : decode cX7_text 96 = .ok (.aload_n 0, 1) := by decide +kernel
theorem dX7_text_97 : decode cX7_text 97 = .ok (.getfield 242, 3) := by decide +kernel
theorem dX7_text_100 : decode cX7_text 100 = .ok (.tableswitch 60 0 3 #[32, 39, 46, 53], 32) := by decide +kernel
theorem dX7_text_132 : decode cX7_text 132 = .ok (.aload_n 0, 1) := by decide +kernel
theorem dX7_text_133 : decode cX7_text 133 = .ok (.invokevirtual 287, 3) := by decide +kernel
theorem dX7_text_136 : decode cX7_text 136 = .ok (.goto (-62), 3) := by decide +kernel
theorem dX7_text_139 : decode cX7_text 139 = .ok (.aload_n 0, 1) := by decide +kernel
theorem dX7_text_140 : decode cX7_text 140 = .ok (.invokevirtual 290, 3) := by decide +kernel
theorem dX7_text_143 : decode cX7_text 143 = .ok (.goto (-69), 3) := by decide +kernel
theorem dX7_text_146 : decode cX7_text 146 = .ok (.aload_n 0, 1) := by decide +kernel
theorem dX7_text_147 : decode cX7_text 147 = .ok (.invokevirtual 293, 3) := by decide +kernel
theorem dX7_text_150 : decode cX7_text 150 = .ok (.goto (-76), 3) := by decide +kernel
theorem dX7_text_153 : decode cX7_text 153 = .ok (.aload_n 0, 1) := by decide +kernel
theorem dX7_text_154 : decode cX7_text 154 = .ok (.invokevirtual 296, 3) := by decide +kernel
theorem dX7_text_157 : decode cX7_text 157 = .ok (.goto (-83), 3) := by decide +kernel
theorem dX7_text_160 : decode cX7_text 160 = .ok (.aload_n 0, 1) := by decide +kernel
theorem dX7_text_161 : decode cX7_text 161 = .ok (.invokevirtual 299, 3) := by decide +kernel
theorem dX7_text_164 : decode cX7_text 164 = .ok (.goto (-90), 3) := by decide +kernel
theorem dX7_text_167 : decode cX7_text 167 = .ok (.aload_n 0, 1) := by decide +kernel
theorem dX7_text_168 : decode cX7_text 168 = .ok (.aload_n 0, 1) := by decide +kernel
theorem dX7_text_169 : decode cX7_text 169 = .ok (.getfield 198, 3) := by decide +kernel
theorem dX7_text_172 : decode cX7_text 172 = .ok (.putfield 20, 3) := by decide +kernel
theorem dX7_text_175 : decode cX7_text 175 = .ok (.aload_n 0, 1) := by decide +kernel
theorem dX7_text_176 : decode cX7_text 176 = .ok (.aload_n 0, 1) := by decide +kernel
theorem dX7_text_177 : decode cX7_text 177 = .ok (.getfield 201, 3) := by decide +kernel
theorem dX7_text_180 : decode cX7_text 180 = .ok (.putfield 24, 3) := by decide +kernel
theorem dX7_text_183 : decode cX7_text 183 = .ok (.aload_n 0, 1) := by decide +kernel
theorem dX7_text_184 : decode cX7_text 184 = .ok (.getfield 198, 3) := by decide +kernel
theorem dX7_text_187 : decode cX7_text 187 = .ok (.ifCond .le 5, 3) := by decide +kernel
theorem dX7_text_190 : decode cX7_text 190 = .ok (.iconst (-1), 1) := by decide +kernel
theorem dX7_text_191 : decode cX7_text 191 = .ok (.ireturn, 1) := by decide +kernel
theorem dX7_text_192 : decode cX7_text 192 = .ok (.aload_n 0, 1) := by decide +kernel
theorem dX7_text_193 : decode cX7_text 193 = .ok (.getfield 7, 3) := by decide +kernel
theorem dX7_text_196 : decode cX7_text 196 = .ok (.iconst 1, 1) := by decide +kernel
theorem dX7_text_197 : decode cX7_text 197 = .ok (.iaload, 1) := by decide +kernel
theorem dX7_text_198 : decode cX7_text 198 = .ok (.istore_n 1, 1) := by decide +kernel
theorem dX7_text_199 : decode cX7_text 199 = .ok (.aload_n 0, 1) := by decide +kernel
theorem dX7_text_200 : decode cX7_text 200 = .ok (.getfield 27, 3) := by decide +kernel
theorem dX7_text_203 : decode cX7_text 203 = .ok (.iload_n 1, 1) := by decide +kernel
theorem dX7_text_204 : decode cX7_text 204 = .ok (.aload_n 0, 1) := by decide +kernel
theorem dX7_text_205 : decode cX7_text 205 = .ok (.getfield 274, 3) := by decide +kernel
theorem dX7_text_208 : decode cX7_text 208 = .ok (.iastore, 1) := by decide +kernel
theorem dX7_text_209 : decode cX7_text 209 = .ok (.iconst 0, 1) := by decide +kernel
theorem dX7_text_210 : decode cX7_text 210 = .ok (.istore_n 2, 1) := by decide +kernel
theorem dX7_text_211 : decode cX7_text 211 = .ok (.iload_n 2, 1) := by decide +kernel
theorem dX7_text_212 : decode cX7_text 212 = .ok (.aload_n 0, 1) := by decide +kernel
theorem dX7_text_213 : decode cX7_text 213 = .ok (.getfield 274, 3) := by decide +kernel
theorem dX7_text_216 : decode cX7_text 216 = .ok (.if_icmp .ge 83, 3) := by decide +kernel
theorem dX7_text_219 : decode cX7_text 219 = .ok (.aload_n 0, 1) := by decide +kernel
theorem dX7_text_220 : decode cX7_text 220 = .ok (.getfield 30, 3) := by decide +kernel
theorem dX7_text_223 : decode cX7_text 223 = .ok (.bipush 24, 2) := by decide +kernel
theorem dX7_text_225 : decode cX7_text 225 = .ok (.iload_n 1, 1) := by decide +kernel
theorem dX7_text_226 : decode cX7_text 226 = .ok (.imul, 1) := by decide +kernel
theorem dX7_text_227 : decode cX7_text 227 = .ok (.iload_n 2, 1) := by decide +kernel
theorem dX7_text_228 : decode cX7_text 228 = .ok (.iadd, 1) := by decide +kernel
theorem dX7_text_229 : decode cX7_text 229 = .ok (.aload_n 0, 1) := by decide +kernel
theorem dX7_text_230 : decode cX7_text 230 = .ok (.getfield 60, 3) := by decide +kernel
theorem dX7_text_233 : decode cX7_text 233 = .ok (.iload_n 2, 1) := by decide +kernel
theorem dX7_text_234 : decode cX7_text 234 = .ok (.iaload, 1) := by decide +kernel
theorem dX7_text_235 : decode cX7_text 235 = .ok (.iastore, 1) := by decide +kernel
theorem dX7_text_236 : decode cX7_text 236 = .ok (.aload_n 0, 1) := by decide +kernel
theorem dX7_text_237 : decode cX7_text 237 = .ok (.getfield 33, 3) := by decide +kernel
theorem dX7_text_240 : decode cX7_text 240 = .ok (.bipush 24, 2) := by decide +kernel
theorem dX7_text_242 : decode cX7_text 242 = .ok (.iload_n 1, 1) := by decide +kernel
theorem dX7_text_243 : decode cX7_text 243 = .ok (.imul, 1) := by decide +kernel
theorem dX7_text_244 : decode cX7_text 244 = .ok (.iload_n 2, 1) := by decide +kernel
theorem dX7_text_245 : decode cX7_text 245 = .ok (.iadd, 1) := by decide +kernel
theorem dX7_text_246 : decode cX7_text 246 = .ok (.sipush 400, 3) := by decide +kernel
theorem dX7_text_249 : decode cX7_text 249 = .ok (.iload_n 1, 1) := by decide +kernel
theorem dX7_text_250 : decode cX7_text 250 = .ok (.imul, 1) := by decide +kernel
theorem dX7_text_251 : decode cX7_text 251 = .ok (.aload_n 0, 1) := by decide +kernel
theorem dX7_text_252 : decode cX7_text 252 = .ok (.getfield 63, 3) := by decide +kernel
theorem dX7_text_255 : decode cX7_text 255 = .ok (.iload_n 2, 1) := by decide +kernel
theorem dX7_text_256 : decode cX7_text 256 = .ok (.iaload, 1) := by decide +kernel
theorem dX7_text_257 : decode cX7_text 257 = .ok (.iadd, 1) := by decide +kernel
theorem dX7_text_258 : decode cX7_text 258 = .ok (.iastore, 1) := by decide +kernel
theorem dX7_text_259 : decode cX7_text 259 = .ok (.aload_n 0, 1) := by decide +kernel
theorem dX7_text_260 : decode cX7_text 260 = .ok (.getfield 36, 3) := by decide +kernel
theorem dX7_text_263 : decode cX7_text 263 = .ok (.bipush 24, 2) := by decide +kernel
theorem dX7_text_265 : decode cX7_text 265 = .ok (.iload_n 1, 1) := by decide +kernel
theorem dX7_text_266 : decode cX7_text 266 = .ok (.imul, 1) := by decide +kernel
theorem dX7_text_267 : decode cX7_text 267 = .ok (.iload_n 2, 1) := by decide +kernel
theorem dX7_text_268 : decode cX7_text 268 = .ok (.iadd, 1) := by decide +kernel
theorem dX7_text_269 : decode cX7_text 269 = .ok (.aload_n 0, 1) := by decide +kernel
theorem dX7_text_270 : decode cX7_text 270 = .ok (.getfield 66, 3) := by decide +kernel
theorem dX7_text_273 : decode cX7_text 273 = .ok (.iload_n 2, 1) := by decide +kernel
theorem dX7_text_274 : decode cX7_text 274 = .ok (.iaload, 1) := by decide +kernel
theorem dX7_text_275 : decode cX7_text 275 = .ok (.iastore, 1) := by decide +kernel
theorem dX7_text_276 : decode cX7_text 276 = .ok (.aload_n 0, 1) := by decide +kernel
theorem dX7_text_277 : decode cX7_text 277 = .ok (.getfield 39, 3) := by decide +kernel
theorem dX7_text_280 : decode cX7_text 280 = .ok (.bipush 24, 2) := by decide +kernel
theorem dX7_text_282 : decode cX7_text 282 = .ok (.iload_n 1, 1) := by decide +kernel
theorem dX7_text_283 : decode cX7_text 283 = .ok (.imul, 1) := by decide +kernel
theorem dX7_text_284 : decode cX7_text 284 = .ok (.iload_n 2, 1) := by decide +kernel
theorem dX7_text_285 : decode cX7_text 285 = .ok (.iadd, 1) := by decide +kernel
theorem dX7_text_286 : decode cX7_text 286 = .ok (.aload_n 0, 1) := by decide +kernel
theorem dX7_text_287 : decode cX7_text 287 = .ok (.getfield 69, 3) := by decide +kernel
theorem dX7_text_290 : decode cX7_text 290 = .ok (.iload_n 2, 1) := by decide +kernel
theorem dX7_text_291 : decode cX7_text 291 = .ok (.iaload, 1) := by decide +kernel
theorem dX7_text_292 : decode cX7_text 292 = .ok (.iastore, 1) := by decide +kernel
theorem dX7_text_293 : decode cX7_text 293 = .ok (.iinc 2 1, 3) := by decide +kernel
theorem dX7_text_296 : decode cX7_text 296 = .ok (.goto (-85), 3) := by decide +kernel
theorem dX7_text_299 : decode cX7_text 299 = .ok (.iconst 0, 1) := by decide +kernel
theorem dX7_text_300 : decode cX7_text 300 = .ok (.istore_n 2, 1) := by decide +kernel
theorem dX7_text_301 : decode cX7_text 301 = .ok (.iload_n 2, 1) := by decide +kernel
theorem dX7_text_302 : decode cX7_text 302 = .ok (.aload_n 0, 1) := by decide +kernel
theorem dX7_text_303 : decode cX7_text 303 = .ok (.getfield 204, 3) := by decide +kernel
theorem dX7_text_306 : decode cX7_text 306 = .ok (.if_icmp .ge 45, 3) := by decide +kernel
theorem dX7_text_309 : decode cX7_text 309 = .ok (.aload_n 0, 1) := by decide +kernel
theorem dX7_text_310 : decode cX7_text 310 = .ok (.getfield 42, 3) := by decide +kernel
theorem dX7_text_313 : decode cX7_text 313 = .ok (.sipush 400, 3) := by decide +kernel
theorem dX7_text_316 : decode cX7_text 316 = .ok (.iload_n 1, 1) := by decide +kernel
theorem dX7_text_317 : decode cX7_text 317 = .ok (.imul, 1) := by decide +kernel
theorem dX7_text_318 : decode cX7_text 318 = .ok (.iload_n 2, 1) := by decide +kernel
theorem dX7_text_319 : decode cX7_text 319 = .ok (.iadd, 1) := by decide +kernel
theorem dX7_text_320 : decode cX7_text 320 = .ok (.aload_n 0, 1) := by decide +kernel
theorem dX7_text_321 : decode cX7_text 321 = .ok (.getfield 72, 3) := by decide +kernel
theorem dX7_text_324 : decode cX7_text 324 = .ok (.iload_n 2, 1) := by decide +kernel
theorem dX7_text_325 : decode cX7_text 325 = .ok (.iaload, 1) := by decide +kernel
theorem dX7_text_326 : decode cX7_text 326 = .ok (.iastore, 1) := by decide +kernel
theorem dX7_text_327 : decode cX7_text 327 = .ok (.aload_n 0, 1) := by decide +kernel
theorem dX7_text_328 : decode cX7_text 328 = .ok (.getfield 45, 3) := by decide +kernel
theorem dX7_text_331 : decode cX7_text 331 = .ok (.sipush 400, 3) := by decide +kernel
theorem dX7_text_334 : decode cX7_text 334 = .ok (.iload_n 1, 1) := by decide +kernel
theorem dX7_text_335 : decode cX7_text 335 = .ok (.imul, 1) := by decide +kernel
theorem dX7_text_336 : decode cX7_text 336 = .ok (.iload_n 2, 1) := by decide +kernel
theorem dX7_text_337 : decode cX7_text 337 = .ok (.iadd, 1) := by decide +kernel
theorem dX7_text_338 : decode cX7_text 338 = .ok (.aload_n 0, 1) := by decide +kernel
theorem dX7_text_339 : decode cX7_text 339 = .ok (.getfield 75, 3) := by decide +kernel
theorem dX7_text_342 : decode cX7_text 342 = .ok (.iload_n 2, 1) := by decide +kernel
theorem dX7_text_343 : decode cX7_text 343 = .ok (.iaload, 1) := by decide +kernel
theorem dX7_text_344 : decode cX7_text 344 = .ok (.iastore, 1) := by decide +kernel
theorem dX7_text_345 : decode cX7_text 345 = .ok (.iinc 2 1, 3) := by decide +kernel
theorem dX7_text_348 : decode cX7_text 348 = .ok (.goto (-47), 3) := by decide +kernel
theorem dX7_text_351 : decode cX7_text 351 = .ok (.aload_n 0, 1) := by decide +kernel
theorem dX7_text_352 : decode cX7_text 352 = .ok (.getfield 7, 3) := by decide +kernel
theorem dX7_text_355 : decode cX7_text 355 = .ok (.iconst 1, 1) := by decide +kernel
theorem dX7_text_356 : decode cX7_text 356 = .ok (.dup2, 1) := by decide +kernel
theorem dX7_text_357 : decode cX7_text 357 = .ok (.iaload, 1) := by decide +kernel
theorem dX7_text_358 : decode cX7_text 358 = .ok (.iconst 1, 1) := by decide +kernel
theorem dX7_text_359 : decode cX7_text 359 = .ok (.iadd, 1) := by decide +kernel
theorem dX7_text_360 : decode cX7_text 360 = .ok (.iastore, 1) := by decide +kernel
theorem dX7_text_361 : decode cX7_text 361 = .ok (.iload_n 1, 1) := by decide +kernel
theorem dX7_text_362 : decode cX7_text 362 = .ok (.ireturn, 1) := by decide +kernel
theorem dX7_fault_0 : decode cX7_fault 0 = .ok (.iload_n 1, 1) := by decide +kernel
theorem dX7_fault_1 : decode cX7_fault 1 = .ok (.ifCond .ne 10, 3) := by decide +kernel
theorem dX7_fault_4 : decode cX7_fault 4 = .ok (.aload_n 0, 1) := by decide +kernel
theorem dX7_fault_5 : decode cX7_fault 5 = .ok (.getfield 20, 3) := by decide +kernel
theorem dX7_fault_8 : decode cX7_fault 8 = .ok (.goto 16, 3) := by decide +kernel
theorem dX7_fault_11 : decode cX7_fault 11 = .ok (.iload_n 1, 1) := by decide +kernel
theorem dX7_fault_12 : decode cX7_fault 12 = .ok (.iconst 1, 1) := by decide +kernel
theorem dX7_fault_13 : decode cX7_fault 13 = .ok (.if_icmp .ne 10, 3) := by decide +kernel
theorem dX7_fault_16 : decode cX7_fault 16 = .ok (.aload_n 0, 1) := by decide +kernel
theorem dX7_fault_17 : decode cX7_fault 17 = .ok (.getfield 24, 3) := by decide +kernel
theorem dX7_fault_20 : decode cX7_fault 20 = .ok (.goto 4, 3) := by decide +kernel
theorem dX7_fault_23 : decode cX7_fault 23 = .ok (.iconst (-1), 1) := by decide +kernel
theorem dX7_fault_24 : decode cX7_fault 24 = .ok (.ireturn, 1) := by decide +kernel
theorem dX7_bound_0 : decode cX7_bound 0 = .ok (.lload_n 0, 1) := by decide +kernel
theorem dX7_bound_1 : decode cX7_bound 1 = .ok (.ldc2_w 302, 3) := by decide +kernel
theorem dX7_bound_4 : decode cX7_bound 4 = .ok (.lcmp, 1) := by decide +kernel
theorem dX7_bound_5 : decode cX7_bound 5 = .ok (.ifCond .le 9, 3) := by decide +kernel
theorem dX7_bound_8 : decode cX7_bound 8 = .ok (.ldc2_w 302, 3) := by decide +kernel
theorem dX7_bound_11 : decode cX7_bound 11 = .ok (.goto 18, 3) := by decide +kernel
theorem dX7_bound_14 : decode cX7_bound 14 = .ok (.lload_n 0, 1) := by decide +kernel
theorem dX7_bound_15 : decode cX7_bound 15 = .ok (.ldc2_w 304, 3) := by decide +kernel
theorem dX7_bound_18 : decode cX7_bound 18 = .ok (.lcmp, 1) := by decide +kernel
theorem dX7_bound_19 : decode cX7_bound 19 = .ok (.ifCond .ge 9, 3) := by decide +kernel
theorem dX7_bound_22 : decode cX7_bound 22 = .ok (.ldc2_w 304, 3) := by decide +kernel
theorem dX7_bound_25 : decode cX7_bound 25 = .ok (.goto 4, 3) := by decide +kernel
theorem dX7_bound_28 : decode cX7_bound 28 = .ok (.lload_n 0, 1) := by decide +kernel
theorem dX7_bound_29 : decode cX7_bound 29 = .ok (.lreturn, 1) := by decide +kernel
theorem dX7_worked_0 : decode cX7_worked 0 = .ok (.iload_n 0, 1) := by decide +kernel
theorem dX7_worked_1 : decode cX7_worked 1 = .ok (.lookupswitch 210 #[(35, 170), (42, 113), (43, 99), (45, 106), (47, 120), (60, 134), (61, 158), (62, 146), (300, 182), (301, 194), (406, 206)], 99) := by decide +kernel
theorem dX7_worked_100 : decode cX7_worked 100 = .ok (.lload_n 1, 1) := by decide +kernel
theorem dX7_worked_101 : decode cX7_worked 101 = .ok (.lload_n 3, 1) := by decide +kernel
theorem dX7_worked_102 : decode cX7_worked 102 = .ok (.ladd, 1) := by decide +kernel
theorem dX7_worked_103 : decode cX7_worked 103 = .ok (.invokestatic 306, 3) := by decide +kernel
theorem dX7_worked_106 : decode cX7_worked 106 = .ok (.lreturn, 1) := by decide +kernel
theorem dX7_worked_107 : decode cX7_worked 107 = .ok (.lload_n 1, 1) := by decide +kernel
theorem dX7_worked_108 : decode cX7_worked 108 = .ok (.lload_n 3, 1) := by decide +kernel
theorem dX7_worked_109 : decode cX7_worked 109 = .ok (.lsub, 1) := by decide +kernel
theorem dX7_worked_110 : decode cX7_worked 110 = .ok (.invokestatic 306, 3) := by decide +kernel
theorem dX7_worked_113 : decode cX7_worked 113 = .ok (.lreturn, 1) := by decide +kernel
theorem dX7_worked_114 : decode cX7_worked 114 = .ok (.lload_n 1, 1) := by decide +kernel
theorem dX7_worked_115 : decode cX7_worked 115 = .ok (.lload_n 3, 1) := by decide +kernel
theorem dX7_worked_116 : decode cX7_worked 116 = .ok (.lmul, 1) := by decide +kernel
theorem dX7_worked_117 : decode cX7_worked 117 = .ok (.invokestatic 306, 3) := by decide +kernel
theorem dX7_worked_120 : decode cX7_worked 120 = .ok (.lreturn, 1) := by decide +kernel
theorem dX7_worked_121 : decode cX7_worked 121 = .ok (.lload_n 3, 1) := by decide +kernel
theorem dX7_worked_122 : decode cX7_worked 122 = .ok (.lconst 0, 1) := by decide +kernel
theorem dX7_worked_123 : decode cX7_worked 123 = .ok (.lcmp, 1) := by decide +kernel
theorem dX7_worked_124 : decode cX7_worked 124 = .ok (.ifCond .ne 7, 3) := by decide +kernel
theorem dX7_worked_127 : decode cX7_worked 127 = .ok (.lconst 0, 1) := by decide +kernel
theorem dX7_worked_128 : decode cX7_worked 128 = .ok (.goto 6, 3) := by decide +kernel
theorem dX7_worked_131 : decode cX7_worked 131 = .ok (.lload_n 1, 1) := by decide +kernel
theorem dX7_worked_132 : decode cX7_worked 132 = .ok (.lload_n 3, 1) := by decide +kernel
theorem dX7_worked_133 : decode cX7_worked 133 = .ok (.ldiv, 1) := by decide +kernel
theorem dX7_worked_134 : decode cX7_worked 134 = .ok (.lreturn, 1) := by decide +kernel
theorem dX7_worked_135 : decode cX7_worked 135 = .ok (.lload_n 1, 1) := by decide +kernel
theorem dX7_worked_136 : decode cX7_worked 136 = .ok (.lload_n 3, 1) := by decide +kernel
theorem dX7_worked_137 : decode cX7_worked 137 = .ok (.lcmp, 1) := by decide +kernel
theorem dX7_worked_138 : decode cX7_worked 138 = .ok (.ifCond .ge 7, 3) := by decide +kernel
theorem dX7_worked_141 : decode cX7_worked 141 = .ok (.lconst 1, 1) := by decide +kernel
theorem dX7_worked_142 : decode cX7_worked 142 = .ok (.goto 4, 3) := by decide +kernel
theorem dX7_worked_145 : decode cX7_worked 145 = .ok (.lconst 0, 1) := by decide +kernel
theorem dX7_worked_146 : decode cX7_worked 146 = .ok (.lreturn, 1) := by decide +kernel
theorem dX7_worked_147 : decode cX7_worked 147 = .ok (.lload_n 1, 1) := by decide +kernel
theorem dX7_worked_148 : decode cX7_worked 148 = .ok (.lload_n 3, 1) := by decide +kernel
theorem dX7_worked_149 : decode cX7_worked 149 = .ok (.lcmp, 1) := by decide +kernel
theorem dX7_worked_150 : decode cX7_worked 150 = .ok (.ifCond .le 7, 3) := by decide +kernel
theorem dX7_worked_153 : decode cX7_worked 153 = .ok (.lconst 1, 1) := by decide +kernel
theorem dX7_worked_154 : decode cX7_worked 154 = .ok (.goto 4, 3) := by decide +kernel
theorem dX7_worked_157 : decode cX7_worked 157 = .ok (.lconst 0, 1) := by decide +kernel
theorem dX7_worked_158 : decode cX7_worked 158 = .ok (.lreturn, 1) := by decide +kernel
theorem dX7_worked_159 : decode cX7_worked 159 = .ok (.lload_n 1, 1) := by decide +kernel
theorem dX7_worked_160 : decode cX7_worked 160 = .ok (.lload_n 3, 1) := by decide +kernel
theorem dX7_worked_161 : decode cX7_worked 161 = .ok (.lcmp, 1) := by decide +kernel
theorem dX7_worked_162 : decode cX7_worked 162 = .ok (.ifCond .ne 7, 3) := by decide +kernel
theorem dX7_worked_165 : decode cX7_worked 165 = .ok (.lconst 1, 1) := by decide +kernel
theorem dX7_worked_166 : decode cX7_worked 166 = .ok (.goto 4, 3) := by decide +kernel
theorem dX7_worked_169 : decode cX7_worked 169 = .ok (.lconst 0, 1) := by decide +kernel
theorem dX7_worked_170 : decode cX7_worked 170 = .ok (.lreturn, 1) := by decide +kernel
theorem dX7_worked_171 : decode cX7_worked 171 = .ok (.lload_n 1, 1) := by decide +kernel
theorem dX7_worked_172 : decode cX7_worked 172 = .ok (.lload_n 3, 1) := by decide +kernel
theorem dX7_worked_173 : decode cX7_worked 173 = .ok (.lcmp, 1) := by decide +kernel
theorem dX7_worked_174 : decode cX7_worked 174 = .ok (.ifCond .eq 7, 3) := by decide +kernel
theorem dX7_worked_177 : decode cX7_worked 177 = .ok (.lconst 1, 1) := by decide +kernel
theorem dX7_worked_178 : decode cX7_worked 178 = .ok (.goto 4, 3) := by decide +kernel
theorem dX7_worked_181 : decode cX7_worked 181 = .ok (.lconst 0, 1) := by decide +kernel
theorem dX7_worked_182 : decode cX7_worked 182 = .ok (.lreturn, 1) := by decide +kernel
theorem dX7_worked_183 : decode cX7_worked 183 = .ok (.lload_n 1, 1) := by decide +kernel
theorem dX7_worked_184 : decode cX7_worked 184 = .ok (.lload_n 3, 1) := by decide +kernel
theorem dX7_worked_185 : decode cX7_worked 185 = .ok (.lcmp, 1) := by decide +kernel
theorem dX7_worked_186 : decode cX7_worked 186 = .ok (.ifCond .gt 7, 3) := by decide +kernel
theorem dX7_worked_189 : decode cX7_worked 189 = .ok (.lconst 1, 1) := by decide +kernel
theorem dX7_worked_190 : decode cX7_worked 190 = .ok (.goto 4, 3) := by decide +kernel
theorem dX7_worked_193 : decode cX7_worked 193 = .ok (.lconst 0, 1) := by decide +kernel
theorem dX7_worked_194 : decode cX7_worked 194 = .ok (.lreturn, 1) := by decide +kernel
theorem dX7_worked_195 : decode cX7_worked 195 = .ok (.lload_n 1, 1) := by decide +kernel
theorem dX7_worked_196 : decode cX7_worked 196 = .ok (.lload_n 3, 1) := by decide +kernel
theorem dX7_worked_197 : decode cX7_worked 197 = .ok (.lcmp, 1) := by decide +kernel
theorem dX7_worked_198 : decode cX7_worked 198 = .ok (.ifCond .lt 7, 3) := by decide +kernel
theorem dX7_worked_201 : decode cX7_worked 201 = .ok (.lconst 1, 1) := by decide +kernel
theorem dX7_worked_202 : decode cX7_worked 202 = .ok (.goto 4, 3) := by decide +kernel
theorem dX7_worked_205 : decode cX7_worked 205 = .ok (.lconst 0, 1) := by decide +kernel
theorem dX7_worked_206 : decode cX7_worked 206 = .ok (.lreturn, 1) := by decide +kernel
theorem dX7_worked_207 : decode cX7_worked 207 = .ok (.lload_n 1, 1) := by decide +kernel
theorem dX7_worked_208 : decode cX7_worked 208 = .ok (.lload_n 3, 1) := by decide +kernel
theorem dX7_worked_209 : decode cX7_worked 209 = .ok (.lmul, 1) := by decide +kernel
theorem dX7_worked_210 : decode cX7_worked 210 = .ok (.lreturn, 1) := by decide +kernel
theorem dX7_worked_211 : decode cX7_worked 211 = .ok (.lload_n 1, 1) := by decide +kernel
theorem dX7_worked_212 : decode cX7_worked 212 = .ok (.lload_n 3, 1) := by decide +kernel
theorem dX7_worked_213 : decode cX7_worked 213 = .ok (.ladd, 1) := by decide +kernel
theorem dX7_worked_214 : decode cX7_worked 214 = .ok (.lconst 0, 1) := by decide +kernel
theorem dX7_worked_215 : decode cX7_worked 215 = .ok (.lcmp, 1) := by decide +kernel
theorem dX7_worked_216 : decode cX7_worked 216 = .ok (.ifCond .le 7, 3) := by decide +kernel
theorem dX7_worked_219 : decode cX7_worked 219 = .ok (.lconst 1, 1) := by decide +kernel
theorem dX7_worked_220 : decode cX7_worked 220 = .ok (.goto 4, 3) := by decide +kernel
theorem dX7_worked_223 : decode cX7_worked 223 = .ok (.lconst 0, 1) := by decide +kernel
theorem dX7_worked_224 : decode cX7_worked 224 = .ok (.lreturn, 1) := by decide +kernel
theorem dX7_saysOf_0 : decode cX7_saysOf 0 = .ok (.iconst 0, 1) := by decide +kernel
theorem dX7_saysOf_1 : decode cX7_saysOf 1 = .ok (.istore_n 2, 1) := by decide +kernel
theorem dX7_saysOf_2 : decode cX7_saysOf 2 = .ok (.iload_n 1, 1) := by decide +kernel
theorem dX7_saysOf_3 : decode cX7_saysOf 3 = .ok (.istore_n 3, 1) := by decide +kernel
theorem dX7_saysOf_4 : decode cX7_saysOf 4 = .ok (.aload_n 0, 1) := by decide +kernel
theorem dX7_saysOf_5 : decode cX7_saysOf 5 = .ok (.getfield 42, 3) := by decide +kernel
theorem dX7_saysOf_8 : decode cX7_saysOf 8 = .ok (.iload_n 3, 1) := by decide +kernel
theorem dX7_saysOf_9 : decode cX7_saysOf 9 = .ok (.iaload, 1) := by decide +kernel
theorem dX7_saysOf_10 : decode cX7_saysOf 10 = .ok (.sipush 408, 3) := by decide +kernel
theorem dX7_saysOf_13 : decode cX7_saysOf 13 = .ok (.if_icmp .eq 162, 3) := by decide +kernel
theorem dX7_saysOf_16 : decode cX7_saysOf 16 = .ok (.aload_n 0, 1) := by decide +kernel
theorem dX7_saysOf_17 : decode cX7_saysOf 17 = .ok (.getfield 42, 3) := by decide +kernel
theorem dX7_saysOf_20 : decode cX7_saysOf 20 = .ok (.iload_n 3, 1) := by decide +kernel
theorem dX7_saysOf_21 : decode cX7_saysOf 21 = .ok (.iaload, 1) := by decide +kernel
theorem dX7_saysOf_22 : decode cX7_saysOf 22 = .ok (.istore 4, 2) := by decide +kernel
theorem dX7_saysOf_24 : decode cX7_saysOf 24 = .ok (.iload 4, 2) := by decide +kernel
theorem dX7_saysOf_26 : decode cX7_saysOf 26 = .ok (.sipush 400, 3) := by decide +kernel
theorem dX7_saysOf_29 : decode cX7_saysOf 29 = .ok (.if_icmp .eq 11, 3) := by decide +kernel
theorem dX7_saysOf_32 : decode cX7_saysOf 32 = .ok (.iload 4, 2) := by decide +kernel
theorem dX7_saysOf_34 : decode cX7_saysOf 34 = .ok (.sipush 401, 3) := by decide +kernel
theorem dX7_saysOf_37 : decode cX7_saysOf 37 = .ok (.if_icmp .ne 45, 3) := by decide +kernel
theorem dX7_saysOf_40 : decode cX7_saysOf 40 = .ok (.aload_n 0, 1) := by decide +kernel
theorem dX7_saysOf_41 : decode cX7_saysOf 41 = .ok (.getfield 81, 3) := by decide +kernel
theorem dX7_saysOf_44 : decode cX7_saysOf 44 = .ok (.iload_n 2, 1) := by decide +kernel
theorem dX7_saysOf_45 : decode cX7_saysOf 45 = .ok (.iload 4, 2) := by decide +kernel
theorem dX7_saysOf_47 : decode cX7_saysOf 47 = .ok (.sipush 400, 3) := by decide +kernel
theorem dX7_saysOf_50 : decode cX7_saysOf 50 = .ok (.if_icmp .ne 13, 3) := by decide +kernel
theorem dX7_saysOf_53 : decode cX7_saysOf 53 = .ok (.aload_n 0, 1) := by decide +kernel
theorem dX7_saysOf_54 : decode cX7_saysOf 54 = .ok (.getfield 45, 3) := by decide +kernel
theorem dX7_saysOf_57 : decode cX7_saysOf 57 = .ok (.iload_n 3, 1) := by decide +kernel
theorem dX7_saysOf_58 : decode cX7_saysOf 58 = .ok (.iaload, 1) := by decide +kernel
theorem dX7_saysOf_59 : decode cX7_saysOf 59 = .ok (.i2l, 1) := by decide +kernel
theorem dX7_saysOf_60 : decode cX7_saysOf 60 = .ok (.goto 15, 3) := by decide +kernel
theorem dX7_saysOf_63 : decode cX7_saysOf 63 = .ok (.aload_n 0, 1) := by decide +kernel
theorem dX7_saysOf_64 : decode cX7_saysOf 64 = .ok (.getfield 78, 3) := by decide +kernel
theorem dX7_saysOf_67 : decode cX7_saysOf 67 = .ok (.aload_n 0, 1) := by decide +kernel
theorem dX7_saysOf_68 : decode cX7_saysOf 68 = .ok (.getfield 45, 3) := by decide +kernel
theorem dX7_saysOf_71 : decode cX7_saysOf 71 = .ok (.iload_n 3, 1) := by decide +kernel
theorem dX7_saysOf_72 : decode cX7_saysOf 72 = .ok (.iaload, 1) := by decide +kernel
theorem dX7_saysOf_73 : decode cX7_saysOf 73 = .ok (.iaload, 1) := by decide +kernel
theorem dX7_saysOf_74 : decode cX7_saysOf 74 = .ok (.i2l, 1) := by decide +kernel
theorem dX7_saysOf_75 : decode cX7_saysOf 75 = .ok (.lastore, 1) := by decide +kernel
theorem dX7_saysOf_76 : decode cX7_saysOf 76 = .ok (.iinc 2 1, 3) := by decide +kernel
theorem dX7_saysOf_79 : decode cX7_saysOf 79 = .ok (.goto 90, 3) := by decide +kernel
theorem dX7_saysOf_82 : decode cX7_saysOf 82 = .ok (.iload 4, 2) := by decide +kernel
theorem dX7_saysOf_84 : decode cX7_saysOf 84 = .ok (.sipush 402, 3) := by decide +kernel
theorem dX7_saysOf_87 : decode cX7_saysOf 87 = .ok (.if_icmp .ne 23, 3) := by decide +kernel
theorem dX7_saysOf_90 : decode cX7_saysOf 90 = .ok (.aload_n 0, 1) := by decide +kernel
theorem dX7_saysOf_91 : decode cX7_saysOf 91 = .ok (.getfield 81, 3) := by decide +kernel
theorem dX7_saysOf_94 : decode cX7_saysOf 94 = .ok (.iload_n 2, 1) := by decide +kernel
theorem dX7_saysOf_95 : decode cX7_saysOf 95 = .ok (.iconst 1, 1) := by decide +kernel
theorem dX7_saysOf_96 : decode cX7_saysOf 96 = .ok (.isub, 1) := by decide +kernel
theorem dX7_saysOf_97 : decode cX7_saysOf 97 = .ok (.aload_n 0, 1) := by decide +kernel
theorem dX7_saysOf_98 : decode cX7_saysOf 98 = .ok (.getfield 81, 3) := by decide +kernel
theorem dX7_saysOf_101 : decode cX7_saysOf 101 = .ok (.iload_n 2, 1) := by decide +kernel
theorem dX7_saysOf_102 : decode cX7_saysOf 102 = .ok (.iconst 1, 1) := by decide +kernel
theorem dX7_saysOf_103 : decode cX7_saysOf 103 = .ok (.isub, 1) := by decide +kernel
theorem dX7_saysOf_104 : decode cX7_saysOf 104 = .ok (.laload, 1) := by decide +kernel
theorem dX7_saysOf_105 : decode cX7_saysOf 105 = .ok (.lneg, 1) := by decide +kernel
theorem dX7_saysOf_106 : decode cX7_saysOf 106 = .ok (.lastore, 1) := by decide +kernel
theorem dX7_saysOf_107 : decode cX7_saysOf 107 = .ok (.goto 62, 3) := by decide +kernel
theorem dX7_saysOf_110 : decode cX7_saysOf 110 = .ok (.iload 4, 2) := by decide +kernel
theorem dX7_saysOf_112 : decode cX7_saysOf 112 = .ok (.sipush 405, 3) := by decide +kernel
theorem dX7_saysOf_115 : decode cX7_saysOf 115 = .ok (.if_icmp .ne 24, 3) := by decide +kernel
theorem dX7_saysOf_118 : decode cX7_saysOf 118 = .ok (.aload_n 0, 1) := by decide +kernel
theorem dX7_saysOf_119 : decode cX7_saysOf 119 = .ok (.getfield 81, 3) := by decide +kernel
theorem dX7_saysOf_122 : decode cX7_saysOf 122 = .ok (.iload_n 2, 1) := by decide +kernel
theorem dX7_saysOf_123 : decode cX7_saysOf 123 = .ok (.iconst 1, 1) := by decide +kernel
theorem dX7_saysOf_124 : decode cX7_saysOf 124 = .ok (.isub, 1) := by decide +kernel
theorem dX7_saysOf_125 : decode cX7_saysOf 125 = .ok (.lconst 1, 1) := by decide +kernel
theorem dX7_saysOf_126 : decode cX7_saysOf 126 = .ok (.aload_n 0, 1) := by decide +kernel
theorem dX7_saysOf_127 : decode cX7_saysOf 127 = .ok (.getfield 81, 3) := by decide +kernel
theorem dX7_saysOf_130 : decode cX7_saysOf 130 = .ok (.iload_n 2, 1) := by decide +kernel
theorem dX7_saysOf_131 : decode cX7_saysOf 131 = .ok (.iconst 1, 1) := by decide +kernel
theorem dX7_saysOf_132 : decode cX7_saysOf 132 = .ok (.isub, 1) := by decide +kernel
theorem dX7_saysOf_133 : decode cX7_saysOf 133 = .ok (.laload, 1) := by decide +kernel
theorem dX7_saysOf_134 : decode cX7_saysOf 134 = .ok (.lsub, 1) := by decide +kernel
theorem dX7_saysOf_135 : decode cX7_saysOf 135 = .ok (.lastore, 1) := by decide +kernel
theorem dX7_saysOf_136 : decode cX7_saysOf 136 = .ok (.goto 33, 3) := by decide +kernel
theorem dX7_saysOf_139 : decode cX7_saysOf 139 = .ok (.iinc 2 (-1), 3) := by decide +kernel
theorem dX7_saysOf_142 : decode cX7_saysOf 142 = .ok (.aload_n 0, 1) := by decide +kernel
theorem dX7_saysOf_143 : decode cX7_saysOf 143 = .ok (.getfield 81, 3) := by decide +kernel
theorem dX7_saysOf_146 : decode cX7_saysOf 146 = .ok (.iload_n 2, 1) := by decide +kernel
theorem dX7_saysOf_147 : decode cX7_saysOf 147 = .ok (.iconst 1, 1) := by decide +kernel
theorem dX7_saysOf_148 : decode cX7_saysOf 148 = .ok (.isub, 1) := by decide +kernel
theorem dX7_saysOf_149 : decode cX7_saysOf 149 = .ok (.iload 4, 2) := by decide +kernel
theorem dX7_saysOf_151 : decode cX7_saysOf 151 = .ok (.aload_n 0, 1) := by decide +kernel
theorem dX7_saysOf_152 : decode cX7_saysOf 152 = .ok (.getfield 81, 3) := by decide +kernel
theorem dX7_saysOf_155 : decode cX7_saysOf 155 = .ok (.iload_n 2, 1) := by decide +kernel
theorem dX7_saysOf_156 : decode cX7_saysOf 156 = .ok (.iconst 1, 1) := by decide +kernel
theorem dX7_saysOf_157 : decode cX7_saysOf 157 = .ok (.isub, 1) := by decide +kernel
theorem dX7_saysOf_158 : decode cX7_saysOf 158 = .ok (.laload, 1) := by decide +kernel
theorem dX7_saysOf_159 : decode cX7_saysOf 159 = .ok (.aload_n 0, 1) := by decide +kernel
theorem dX7_saysOf_160 : decode cX7_saysOf 160 = .ok (.getfield 81, 3) := by decide +kernel
theorem dX7_saysOf_163 : decode cX7_saysOf 163 = .ok (.iload_n 2, 1) := by decide +kernel
theorem dX7_saysOf_164 : decode cX7_saysOf 164 = .ok (.laload, 1) := by decide +kernel
theorem dX7_saysOf_165 : decode cX7_saysOf 165 = .ok (.invokestatic 310, 3) := by decide +kernel
theorem dX7_saysOf_168 : decode cX7_saysOf 168 = .ok (.lastore, 1) := by decide +kernel
theorem dX7_saysOf_169 : decode cX7_saysOf 169 = .ok (.iinc 3 1, 3) := by decide +kernel
theorem dX7_saysOf_172 : decode cX7_saysOf 172 = .ok (.goto (-168), 3) := by decide +kernel
theorem dX7_saysOf_175 : decode cX7_saysOf 175 = .ok (.aload_n 0, 1) := by decide +kernel
theorem dX7_saysOf_176 : decode cX7_saysOf 176 = .ok (.getfield 81, 3) := by decide +kernel
theorem dX7_saysOf_179 : decode cX7_saysOf 179 = .ok (.iconst 0, 1) := by decide +kernel
theorem dX7_saysOf_180 : decode cX7_saysOf 180 = .ok (.laload, 1) := by decide +kernel
theorem dX7_saysOf_181 : decode cX7_saysOf 181 = .ok (.lreturn, 1) := by decide +kernel
theorem dX7_by_0 : decode cX7_by 0 = .ok (.iload_n 1, 1) := by decide +kernel
theorem dX7_by_1 : decode cX7_by 1 = .ok (.iconst (-1), 1) := by decide +kernel
theorem dX7_by_2 : decode cX7_by 2 = .ok (.if_icmp .eq 21, 3) := by decide +kernel
theorem dX7_by_5 : decode cX7_by 5 = .ok (.iload_n 1, 1) := by decide +kernel
theorem dX7_by_6 : decode cX7_by 6 = .ok (.iconst 0, 1) := by decide +kernel
theorem dX7_by_7 : decode cX7_by 7 = .ok (.aload_n 0, 1) := by decide +kernel
theorem dX7_by_8 : decode cX7_by 8 = .ok (.getfield 7, 3) := by decide +kernel
theorem dX7_by_11 : decode cX7_by 11 = .ok (.iconst 1, 1) := by decide +kernel
theorem dX7_by_12 : decode cX7_by 12 = .ok (.iaload, 1) := by decide +kernel
theorem dX7_by_13 : decode cX7_by 13 = .ok (.iconst 1, 1) := by decide +kernel
theorem dX7_by_14 : decode cX7_by 14 = .ok (.isub, 1) := by decide +kernel
theorem dX7_by_15 : decode cX7_by 15 = .ok (.invokestatic 110, 3) := by decide +kernel
theorem dX7_by_18 : decode cX7_by 18 = .ok (.ifCond .ne 5, 3) := by decide +kernel
theorem dX7_by_21 : decode cX7_by 21 = .ok (.iconst 0, 1) := by decide +kernel
theorem dX7_by_22 : decode cX7_by 22 = .ok (.ireturn, 1) := by decide +kernel
theorem dX7_by_23 : decode cX7_by 23 = .ok (.aload_n 0, 1) := by decide +kernel
theorem dX7_by_24 : decode cX7_by 24 = .ok (.getfield 7, 3) := by decide +kernel
theorem dX7_by_27 : decode cX7_by 27 = .ok (.iconst 2, 1) := by decide +kernel
theorem dX7_by_28 : decode cX7_by 28 = .ok (.iload_n 1, 1) := by decide +kernel
theorem dX7_by_29 : decode cX7_by 29 = .ok (.iastore, 1) := by decide +kernel
theorem dX7_by_30 : decode cX7_by 30 = .ok (.iconst 1, 1) := by decide +kernel
theorem dX7_by_31 : decode cX7_by 31 = .ok (.ireturn, 1) := by decide +kernel
theorem dX7_ordersOf_0 : decode cX7_ordersOf 0 = .ok (.iconst (-1), 1) := by decide +kernel
theorem dX7_ordersOf_1 : decode cX7_ordersOf 1 = .ok (.istore_n 2, 1) := by decide +kernel
theorem dX7_ordersOf_2 : decode cX7_ordersOf 2 = .ok (.iconst 0, 1) := by decide +kernel
theorem dX7_ordersOf_3 : decode cX7_ordersOf 3 = .ok (.istore_n 3, 1) := by decide +kernel
theorem dX7_ordersOf_4 : decode cX7_ordersOf 4 = .ok (.aload_n 0, 1) := by decide +kernel
theorem dX7_ordersOf_5 : decode cX7_ordersOf 5 = .ok (.getfield 7, 3) := by decide +kernel
theorem dX7_ordersOf_8 : decode cX7_ordersOf 8 = .ok (.iconst 2, 1) := by decide +kernel
theorem dX7_ordersOf_9 : decode cX7_ordersOf 9 = .ok (.iaload, 1) := by decide +kernel
theorem dX7_ordersOf_10 : decode cX7_ordersOf 10 = .ok (.iconst (-1), 1) := by decide +kernel
theorem dX7_ordersOf_11 : decode cX7_ordersOf 11 = .ok (.if_icmp .eq 60, 3) := by decide +kernel
theorem dX7_ordersOf_14 : decode cX7_ordersOf 14 = .ok (.iload_n 3, 1) := by decide +kernel
theorem dX7_ordersOf_15 : decode cX7_ordersOf 15 = .ok (.aload_n 0, 1) := by decide +kernel
theorem dX7_ordersOf_16 : decode cX7_ordersOf 16 = .ok (.getfield 27, 3) := by decide +kernel
theorem dX7_ordersOf_19 : decode cX7_ordersOf 19 = .ok (.aload_n 0, 1) := by decide +kernel
theorem dX7_ordersOf_20 : decode cX7_ordersOf 20 = .ok (.getfield 7, 3) := by decide +kernel
theorem dX7_ordersOf_23 : decode cX7_ordersOf 23 = .ok (.iconst 2, 1) := by decide +kernel
theorem dX7_ordersOf_24 : decode cX7_ordersOf 24 = .ok (.iaload, 1) := by decide +kernel
theorem dX7_ordersOf_25 : decode cX7_ordersOf 25 = .ok (.iaload, 1) := by decide +kernel
theorem dX7_ordersOf_26 : decode cX7_ordersOf 26 = .ok (.if_icmp .ge 45, 3) := by decide +kernel
theorem dX7_ordersOf_29 : decode cX7_ordersOf 29 = .ok (.bipush 24, 2) := by decide +kernel
theorem dX7_ordersOf_31 : decode cX7_ordersOf 31 = .ok (.aload_n 0, 1) := by decide +kernel
theorem dX7_ordersOf_32 : decode cX7_ordersOf 32 = .ok (.getfield 7, 3) := by decide +kernel
theorem dX7_ordersOf_35 : decode cX7_ordersOf 35 = .ok (.iconst 2, 1) := by decide +kernel
theorem dX7_ordersOf_36 : decode cX7_ordersOf 36 = .ok (.iaload, 1) := by decide +kernel
theorem dX7_ordersOf_37 : decode cX7_ordersOf 37 = .ok (.imul, 1) := by decide +kernel
theorem dX7_ordersOf_38 : decode cX7_ordersOf 38 = .ok (.iload_n 3, 1) := by decide +kernel
theorem dX7_ordersOf_39 : decode cX7_ordersOf 39 = .ok (.iadd, 1) := by decide +kernel
theorem dX7_ordersOf_40 : decode cX7_ordersOf 40 = .ok (.istore 4, 2) := by decide +kernel
theorem dX7_ordersOf_42 : decode cX7_ordersOf 42 = .ok (.aload_n 0, 1) := by decide +kernel
theorem dX7_ordersOf_43 : decode cX7_ordersOf 43 = .ok (.getfield 30, 3) := by decide +kernel
theorem dX7_ordersOf_46 : decode cX7_ordersOf 46 = .ok (.iload 4, 2) := by decide +kernel
theorem dX7_ordersOf_48 : decode cX7_ordersOf 48 = .ok (.iaload, 1) := by decide +kernel
theorem dX7_ordersOf_49 : decode cX7_ordersOf 49 = .ok (.iload_n 1, 1) := by decide +kernel
theorem dX7_ordersOf_50 : decode cX7_ordersOf 50 = .ok (.if_icmp .ne 13, 3) := by decide +kernel
theorem dX7_ordersOf_53 : decode cX7_ordersOf 53 = .ok (.aload_n 0, 1) := by decide +kernel
theorem dX7_ordersOf_54 : decode cX7_ordersOf 54 = .ok (.getfield 33, 3) := by decide +kernel
theorem dX7_ordersOf_57 : decode cX7_ordersOf 57 = .ok (.iload 4, 2) := by decide +kernel
theorem dX7_ordersOf_59 : decode cX7_ordersOf 59 = .ok (.iaload, 1) := by decide +kernel
theorem dX7_ordersOf_60 : decode cX7_ordersOf 60 = .ok (.goto 4, 3) := by decide +kernel
theorem dX7_ordersOf_63 : decode cX7_ordersOf 63 = .ok (.iload_n 2, 1) := by decide +kernel
theorem dX7_ordersOf_64 : decode cX7_ordersOf 64 = .ok (.istore_n 2, 1) := by decide +kernel
theorem dX7_ordersOf_65 : decode cX7_ordersOf 65 = .ok (.iinc 3 1, 3) := by decide +kernel
theorem dX7_ordersOf_68 : decode cX7_ordersOf 68 = .ok (.goto (-64), 3) := by decide +kernel
theorem dX7_ordersOf_71 : decode cX7_ordersOf 71 = .ok (.iload_n 2, 1) := by decide +kernel
theorem dX7_ordersOf_72 : decode cX7_ordersOf 72 = .ok (.ireturn, 1) := by decide +kernel
theorem dX7_laysWorld_0 : decode cX7_laysWorld 0 = .ok (.iconst 0, 1) := by decide +kernel
theorem dX7_laysWorld_1 : decode cX7_laysWorld 1 = .ok (.istore_n 1, 1) := by decide +kernel
theorem dX7_laysWorld_2 : decode cX7_laysWorld 2 = .ok (.iload_n 1, 1) := by decide +kernel
theorem dX7_laysWorld_3 : decode cX7_laysWorld 3 = .ok (.iconst 4, 1) := by decide +kernel
theorem dX7_laysWorld_4 : decode cX7_laysWorld 4 = .ok (.if_icmp .ge 24, 3) := by decide +kernel
theorem dX7_laysWorld_7 : decode cX7_laysWorld 7 = .ok (.aload_n 0, 1) := by decide +kernel
theorem dX7_laysWorld_8 : decode cX7_laysWorld 8 = .ok (.getfield 85, 3) := by decide +kernel
theorem dX7_laysWorld_11 : decode cX7_laysWorld 11 = .ok (.iload_n 1, 1) := by decide +kernel
theorem dX7_laysWorld_12 : decode cX7_laysWorld 12 = .ok (.aload_n 0, 1) := by decide +kernel
theorem dX7_laysWorld_13 : decode cX7_laysWorld 13 = .ok (.getfield 7, 3) := by decide +kernel
theorem dX7_laysWorld_16 : decode cX7_laysWorld 16 = .ok (.bipush 110, 2) := by decide +kernel
theorem dX7_laysWorld_18 : decode cX7_laysWorld 18 = .ok (.iload_n 1, 1) := by decide +kernel
theorem dX7_laysWorld_19 : decode cX7_laysWorld 19 = .ok (.iadd, 1) := by decide +kernel
theorem dX7_laysWorld_20 : decode cX7_laysWorld 20 = .ok (.iaload, 1) := by decide +kernel
theorem dX7_laysWorld_21 : decode cX7_laysWorld 21 = .ok (.iastore, 1) := by decide +kernel
theorem dX7_laysWorld_22 : decode cX7_laysWorld 22 = .ok (.iinc 1 1, 3) := by decide +kernel
theorem dX7_laysWorld_25 : decode cX7_laysWorld 25 = .ok (.goto (-23), 3) := by decide +kernel
theorem dX7_laysWorld_28 : decode cX7_laysWorld 28 = .ok (.iconst 0, 1) := by decide +kernel
theorem dX7_laysWorld_29 : decode cX7_laysWorld 29 = .ok (.istore_n 1, 1) := by decide +kernel
theorem dX7_laysWorld_30 : decode cX7_laysWorld 30 = .ok (.iload_n 1, 1) := by decide +kernel
theorem dX7_laysWorld_31 : decode cX7_laysWorld 31 = .ok (.bipush 9, 2) := by decide +kernel
theorem dX7_laysWorld_33 : decode cX7_laysWorld 33 = .ok (.if_icmp .ge 24, 3) := by decide +kernel
theorem dX7_laysWorld_36 : decode cX7_laysWorld 36 = .ok (.aload_n 0, 1) := by decide +kernel
theorem dX7_laysWorld_37 : decode cX7_laysWorld 37 = .ok (.getfield 88, 3) := by decide +kernel
theorem dX7_laysWorld_40 : decode cX7_laysWorld 40 = .ok (.iload_n 1, 1) := by decide +kernel
theorem dX7_laysWorld_41 : decode cX7_laysWorld 41 = .ok (.aload_n 0, 1) := by decide +kernel
theorem dX7_laysWorld_42 : decode cX7_laysWorld 42 = .ok (.getfield 7, 3) := by decide +kernel
theorem dX7_laysWorld_45 : decode cX7_laysWorld 45 = .ok (.bipush 123, 2) := by decide +kernel
theorem dX7_laysWorld_47 : decode cX7_laysWorld 47 = .ok (.iload_n 1, 1) := by decide +kernel
theorem dX7_laysWorld_48 : decode cX7_laysWorld 48 = .ok (.iadd, 1) := by decide +kernel
theorem dX7_laysWorld_49 : decode cX7_laysWorld 49 = .ok (.iaload, 1) := by decide +kernel
theorem dX7_laysWorld_50 : decode cX7_laysWorld 50 = .ok (.iastore, 1) := by decide +kernel
theorem dX7_laysWorld_51 : decode cX7_laysWorld 51 = .ok (.iinc 1 1, 3) := by decide +kernel
theorem dX7_laysWorld_54 : decode cX7_laysWorld 54 = .ok (.goto (-24), 3) := by decide +kernel
theorem dX7_laysWorld_57 : decode cX7_laysWorld 57 = .ok (.aload_n 0, 1) := by decide +kernel
theorem dX7_laysWorld_58 : decode cX7_laysWorld 58 = .ok (.aload_n 0, 1) := by decide +kernel
theorem dX7_laysWorld_59 : decode cX7_laysWorld 59 = .ok (.getfield 7, 3) := by decide +kernel
theorem dX7_laysWorld_62 : decode cX7_laysWorld 62 = .ok (.sipush 132, 3) := by decide +kernel
theorem dX7_laysWorld_65 : decode cX7_laysWorld 65 = .ok (.iaload, 1) := by decide +kernel
theorem dX7_laysWorld_66 : decode cX7_laysWorld 66 = .ok (.putfield 314, 3) := by decide +kernel
theorem dX7_laysWorld_69 : decode cX7_laysWorld 69 = .ok (.return_, 1) := by decide +kernel
theorem dX7_held_0 : decode cX7_held 0 = .ok (.lload_n 0, 1) := by decide +kernel
theorem dX7_held_1 : decode cX7_held 1 = .ok (.iload_n 2, 1) := by decide +kernel
theorem dX7_held_2 : decode cX7_held 2 = .ok (.i2l, 1) := by decide +kernel
theorem dX7_held_3 : decode cX7_held 3 = .ok (.lcmp, 1) := by decide +kernel
theorem dX7_held_4 : decode cX7_held 4 = .ok (.ifCond .ge 7, 3) := by decide +kernel
theorem dX7_held_7 : decode cX7_held 7 = .ok (.iload_n 2, 1) := by decide +kernel
theorem dX7_held_8 : decode cX7_held 8 = .ok (.goto 16, 3) := by decide +kernel
theorem dX7_held_11 : decode cX7_held 11 = .ok (.lload_n 0, 1) := by decide +kernel
theorem dX7_held_12 : decode cX7_held 12 = .ok (.iload_n 3, 1) := by decide +kernel
theorem dX7_held_13 : decode cX7_held 13 = .ok (.i2l, 1) := by decide +kernel
theorem dX7_held_14 : decode cX7_held 14 = .ok (.lcmp, 1) := by decide +kernel
theorem dX7_held_15 : decode cX7_held 15 = .ok (.ifCond .le 7, 3) := by decide +kernel
theorem dX7_held_18 : decode cX7_held 18 = .ok (.iload_n 3, 1) := by decide +kernel
theorem dX7_held_19 : decode cX7_held 19 = .ok (.goto 5, 3) := by decide +kernel
theorem dX7_held_22 : decode cX7_held 22 = .ok (.lload_n 0, 1) := by decide +kernel
theorem dX7_held_23 : decode cX7_held 23 = .ok (.l2i, 1) := by decide +kernel
theorem dX7_held_24 : decode cX7_held 24 = .ok (.ireturn, 1) := by decide +kernel
theorem dX7_least_0 : decode cX7_least 0 = .ok (.iload_n 0, 1) := by decide +kernel
theorem dX7_least_1 : decode cX7_least 1 = .ok (.iload_n 1, 1) := by decide +kernel
theorem dX7_least_2 : decode cX7_least 2 = .ok (.if_icmp .ge 7, 3) := by decide +kernel
theorem dX7_least_5 : decode cX7_least 5 = .ok (.iload_n 0, 1) := by decide +kernel
theorem dX7_least_6 : decode cX7_least 6 = .ok (.goto 4, 3) := by decide +kernel
theorem dX7_least_9 : decode cX7_least 9 = .ok (.iload_n 1, 1) := by decide +kernel
theorem dX7_least_10 : decode cX7_least 10 = .ok (.ireturn, 1) := by decide +kernel
theorem dX7_names_0 : decode cX7_names 0 = .ok (.aload_n 0, 1) := by decide +kernel
theorem dX7_names_1 : decode cX7_names 1 = .ok (.getfield 78, 3) := by decide +kernel
theorem dX7_names_4 : decode cX7_names 4 = .ok (.iconst 0, 1) := by decide +kernel
theorem dX7_names_5 : decode cX7_names 5 = .ok (.iload_n 1, 1) := by decide +kernel
theorem dX7_names_6 : decode cX7_names 6 = .ok (.iastore, 1) := by decide +kernel
theorem dX7_names_7 : decode cX7_names 7 = .ok (.aload_n 0, 1) := by decide +kernel
theorem dX7_names_8 : decode cX7_names 8 = .ok (.getfield 78, 3) := by decide +kernel
theorem dX7_names_11 : decode cX7_names 11 = .ok (.iconst 1, 1) := by decide +kernel
theorem dX7_names_12 : decode cX7_names 12 = .ok (.aload_n 0, 1) := by decide +kernel
theorem dX7_names_13 : decode cX7_names 13 = .ok (.getfield 7, 3) := by decide +kernel
theorem dX7_names_16 : decode cX7_names 16 = .ok (.bipush 10, 2) := by decide +kernel
theorem dX7_names_18 : decode cX7_names 18 = .ok (.iconst 3, 1) := by decide +kernel
theorem dX7_names_19 : decode cX7_names 19 = .ok (.iload_n 1, 1) := by decide +kernel
theorem dX7_names_20 : decode cX7_names 20 = .ok (.imul, 1) := by decide +kernel
theorem dX7_names_21 : decode cX7_names 21 = .ok (.iadd, 1) := by decide +kernel
theorem dX7_names_22 : decode cX7_names 22 = .ok (.iaload, 1) := by decide +kernel
theorem dX7_names_23 : decode cX7_names 23 = .ok (.iastore, 1) := by decide +kernel
theorem dX7_names_24 : decode cX7_names 24 = .ok (.aload_n 0, 1) := by decide +kernel
theorem dX7_names_25 : decode cX7_names 25 = .ok (.getfield 78, 3) := by decide +kernel
theorem dX7_names_28 : decode cX7_names 28 = .ok (.iconst 2, 1) := by decide +kernel
theorem dX7_names_29 : decode cX7_names 29 = .ok (.aload_n 0, 1) := by decide +kernel
theorem dX7_names_30 : decode cX7_names 30 = .ok (.getfield 7, 3) := by decide +kernel
theorem dX7_names_33 : decode cX7_names 33 = .ok (.bipush 10, 2) := by decide +kernel
theorem dX7_names_35 : decode cX7_names 35 = .ok (.iconst 3, 1) := by decide +kernel
theorem dX7_names_36 : decode cX7_names 36 = .ok (.iload_n 1, 1) := by decide +kernel
theorem dX7_names_37 : decode cX7_names 37 = .ok (.imul, 1) := by decide +kernel
theorem dX7_names_38 : decode cX7_names 38 = .ok (.iadd, 1) := by decide +kernel
theorem dX7_names_39 : decode cX7_names 39 = .ok (.iconst 1, 1) := by decide +kernel
theorem dX7_names_40 : decode cX7_names 40 = .ok (.iadd, 1) := by decide +kernel
theorem dX7_names_41 : decode cX7_names 41 = .ok (.iaload, 1) := by decide +kernel
theorem dX7_names_42 : decode cX7_names 42 = .ok (.iastore, 1) := by decide +kernel
theorem dX7_names_43 : decode cX7_names 43 = .ok (.aload_n 0, 1) := by decide +kernel
theorem dX7_names_44 : decode cX7_names 44 = .ok (.getfield 78, 3) := by decide +kernel
theorem dX7_names_47 : decode cX7_names 47 = .ok (.iconst 3, 1) := by decide +kernel
theorem dX7_names_48 : decode cX7_names 48 = .ok (.aload_n 0, 1) := by decide +kernel
theorem dX7_names_49 : decode cX7_names 49 = .ok (.getfield 88, 3) := by decide +kernel
theorem dX7_names_52 : decode cX7_names 52 = .ok (.iload_n 1, 1) := by decide +kernel
theorem dX7_names_53 : decode cX7_names 53 = .ok (.iaload, 1) := by decide +kernel
theorem dX7_names_54 : decode cX7_names 54 = .ok (.iastore, 1) := by decide +kernel
theorem dX7_names_55 : decode cX7_names 55 = .ok (.return_, 1) := by decide +kernel
theorem dX7_stillHolds_0 : decode cX7_stillHolds 0 = .ok (.aload_n 0, 1) := by decide +kernel
theorem dX7_stillHolds_1 : decode cX7_stillHolds 1 = .ok (.iconst 1, 1) := by decide +kernel
theorem dX7_stillHolds_2 : decode cX7_stillHolds 2 = .ok (.invokevirtual 317, 3) := by decide +kernel
theorem dX7_stillHolds_5 : decode cX7_stillHolds 5 = .ok (.istore_n 2, 1) := by decide +kernel
theorem dX7_stillHolds_6 : decode cX7_stillHolds 6 = .ok (.aload_n 0, 1) := by decide +kernel
theorem dX7_stillHolds_7 : decode cX7_stillHolds 7 = .ok (.iload_n 1, 1) := by decide +kernel
theorem dX7_stillHolds_8 : decode cX7_stillHolds 8 = .ok (.invokevirtual 320, 3) := by decide +kernel
theorem dX7_stillHolds_11 : decode cX7_stillHolds 11 = .ok (.iload_n 2, 1) := by decide +kernel
theorem dX7_stillHolds_12 : decode cX7_stillHolds 12 = .ok (.iconst (-1), 1) := by decide +kernel
theorem dX7_stillHolds_13 : decode cX7_stillHolds 13 = .ok (.if_icmp .ne 22, 3) := by decide +kernel
theorem dX7_stillHolds_16 : decode cX7_stillHolds 16 = .ok (.bipush 20, 2) := by decide +kernel
theorem dX7_stillHolds_18 : decode cX7_stillHolds 18 = .ok (.aload_n 0, 1) := by decide +kernel
theorem dX7_stillHolds_19 : decode cX7_stillHolds 19 = .ok (.getfield 7, 3) := by decide +kernel
theorem dX7_stillHolds_22 : decode cX7_stillHolds 22 = .ok (.bipush 10, 2) := by decide +kernel
theorem dX7_stillHolds_24 : decode cX7_stillHolds 24 = .ok (.iconst 3, 1) := by decide +kernel
theorem dX7_stillHolds_25 : decode cX7_stillHolds 25 = .ok (.iload_n 1, 1) := by decide +kernel
theorem dX7_stillHolds_26 : decode cX7_stillHolds 26 = .ok (.imul, 1) := by decide +kernel
theorem dX7_stillHolds_27 : decode cX7_stillHolds 27 = .ok (.iadd, 1) := by decide +kernel
theorem dX7_stillHolds_28 : decode cX7_stillHolds 28 = .ok (.iconst 1, 1) := by decide +kernel
theorem dX7_stillHolds_29 : decode cX7_stillHolds 29 = .ok (.iadd, 1) := by decide +kernel
theorem dX7_stillHolds_30 : decode cX7_stillHolds 30 = .ok (.iaload, 1) := by decide +kernel
theorem dX7_stillHolds_31 : decode cX7_stillHolds 31 = .ok (.imul, 1) := by decide +kernel
theorem dX7_stillHolds_32 : decode cX7_stillHolds 32 = .ok (.goto 15, 3) := by decide +kernel
theorem dX7_stillHolds_35 : decode cX7_stillHolds 35 = .ok (.aload_n 0, 1) := by decide +kernel
theorem dX7_stillHolds_36 : decode cX7_stillHolds 36 = .ok (.iload_n 2, 1) := by decide +kernel
theorem dX7_stillHolds_37 : decode cX7_stillHolds 37 = .ok (.invokevirtual 323, 3) := by decide +kernel
theorem dX7_stillHolds_40 : decode cX7_stillHolds 40 = .ok (.iconst 0, 1) := by decide +kernel
theorem dX7_stillHolds_41 : decode cX7_stillHolds 41 = .ok (.sipush 9999, 3) := by decide +kernel
theorem dX7_stillHolds_44 : decode cX7_stillHolds 44 = .ok (.invokestatic 327, 3) := by decide +kernel
theorem dX7_stillHolds_47 : decode cX7_stillHolds 47 = .ok (.istore_n 3, 1) := by decide +kernel
theorem dX7_stillHolds_48 : decode cX7_stillHolds 48 = .ok (.iload_n 3, 1) := by decide +kernel
theorem dX7_stillHolds_49 : decode cX7_stillHolds 49 = .ok (.aload_n 0, 1) := by decide +kernel
theorem dX7_stillHolds_50 : decode cX7_stillHolds 50 = .ok (.getfield 88, 3) := by decide +kernel
theorem dX7_stillHolds_53 : decode cX7_stillHolds 53 = .ok (.iload_n 1, 1) := by decide +kernel
theorem dX7_stillHolds_54 : decode cX7_stillHolds 54 = .ok (.iaload, 1) := by decide +kernel
theorem dX7_stillHolds_55 : decode cX7_stillHolds 55 = .ok (.if_icmp .le 14, 3) := by decide +kernel
theorem dX7_stillHolds_58 : decode cX7_stillHolds 58 = .ok (.iload_n 3, 1) := by decide +kernel
theorem dX7_stillHolds_59 : decode cX7_stillHolds 59 = .ok (.aload_n 0, 1) := by decide +kernel
theorem dX7_stillHolds_60 : decode cX7_stillHolds 60 = .ok (.getfield 88, 3) := by decide +kernel
theorem dX7_stillHolds_63 : decode cX7_stillHolds 63 = .ok (.iload_n 1, 1) := by decide +kernel
theorem dX7_stillHolds_64 : decode cX7_stillHolds 64 = .ok (.iaload, 1) := by decide +kernel
theorem dX7_stillHolds_65 : decode cX7_stillHolds 65 = .ok (.isub, 1) := by decide +kernel
theorem dX7_stillHolds_66 : decode cX7_stillHolds 66 = .ok (.goto 4, 3) := by decide +kernel
theorem dX7_stillHolds_69 : decode cX7_stillHolds 69 = .ok (.iconst 0, 1) := by decide +kernel
theorem dX7_stillHolds_70 : decode cX7_stillHolds 70 = .ok (.ireturn, 1) := by decide +kernel
theorem dX7_spoonOf_0 : decode cX7_spoonOf 0 = .ok (.aload_n 0, 1) := by decide +kernel
theorem dX7_spoonOf_1 : decode cX7_spoonOf 1 = .ok (.getfield 7, 3) := by decide +kernel
theorem dX7_spoonOf_4 : decode cX7_spoonOf 4 = .ok (.bipush 114, 2) := by decide +kernel
theorem dX7_spoonOf_6 : decode cX7_spoonOf 6 = .ok (.iload_n 1, 1) := by decide +kernel
theorem dX7_spoonOf_7 : decode cX7_spoonOf 7 = .ok (.iadd, 1) := by decide +kernel
theorem dX7_spoonOf_8 : decode cX7_spoonOf 8 = .ok (.iaload, 1) := by decide +kernel
theorem dX7_spoonOf_9 : decode cX7_spoonOf 9 = .ok (.istore_n 3, 1) := by decide +kernel
theorem dX7_spoonOf_10 : decode cX7_spoonOf 10 = .ok (.iload_n 3, 1) := by decide +kernel
theorem dX7_spoonOf_11 : decode cX7_spoonOf 11 = .ok (.iconst 2, 1) := by decide +kernel
theorem dX7_spoonOf_12 : decode cX7_spoonOf 12 = .ok (.if_icmp .ne 5, 3) := by decide +kernel
theorem dX7_spoonOf_15 : decode cX7_spoonOf 15 = .ok (.iconst 0, 1) := by decide +kernel
theorem dX7_spoonOf_16 : decode cX7_spoonOf 16 = .ok (.ireturn, 1) := by decide +kernel
theorem dX7_spoonOf_17 : decode cX7_spoonOf 17 = .ok (.aload_n 0, 1) := by decide +kernel
theorem dX7_spoonOf_18 : decode cX7_spoonOf 18 = .ok (.getfield 85, 3) := by decide +kernel
theorem dX7_spoonOf_21 : decode cX7_spoonOf 21 = .ok (.iconst 2, 1) := by decide +kernel
theorem dX7_spoonOf_22 : decode cX7_spoonOf 22 = .ok (.iload_n 3, 1) := by decide +kernel
theorem dX7_spoonOf_23 : decode cX7_spoonOf 23 = .ok (.imul, 1) := by decide +kernel
theorem dX7_spoonOf_24 : decode cX7_spoonOf 24 = .ok (.iload_n 2, 1) := by decide +kernel
theorem dX7_spoonOf_25 : decode cX7_spoonOf 25 = .ok (.iadd, 1) := by decide +kernel
theorem dX7_spoonOf_26 : decode cX7_spoonOf 26 = .ok (.iaload, 1) := by decide +kernel
theorem dX7_spoonOf_27 : decode cX7_spoonOf 27 = .ok (.istore 4, 2) := by decide +kernel
theorem dX7_spoonOf_29 : decode cX7_spoonOf 29 = .ok (.aload_n 0, 1) := by decide +kernel
theorem dX7_spoonOf_30 : decode cX7_spoonOf 30 = .ok (.iload_n 1, 1) := by decide +kernel
theorem dX7_spoonOf_31 : decode cX7_spoonOf 31 = .ok (.invokevirtual 331, 3) := by decide +kernel
theorem dX7_spoonOf_34 : decode cX7_spoonOf 34 = .ok (.istore 5, 2) := by decide +kernel
theorem dX7_spoonOf_36 : decode cX7_spoonOf 36 = .ok (.aload_n 0, 1) := by decide +kernel
theorem dX7_spoonOf_37 : decode cX7_spoonOf 37 = .ok (.iconst 0, 1) := by decide +kernel
theorem dX7_spoonOf_38 : decode cX7_spoonOf 38 = .ok (.invokevirtual 317, 3) := by decide +kernel
theorem dX7_spoonOf_41 : decode cX7_spoonOf 41 = .ok (.istore 6, 2) := by decide +kernel
theorem dX7_spoonOf_43 : decode cX7_spoonOf 43 = .ok (.aload_n 0, 1) := by decide +kernel
theorem dX7_spoonOf_44 : decode cX7_spoonOf 44 = .ok (.iload_n 1, 1) := by decide +kernel
theorem dX7_spoonOf_45 : decode cX7_spoonOf 45 = .ok (.invokevirtual 320, 3) := by decide +kernel
theorem dX7_spoonOf_48 : decode cX7_spoonOf 48 = .ok (.aload_n 0, 1) := by decide +kernel
theorem dX7_spoonOf_49 : decode cX7_spoonOf 49 = .ok (.getfield 78, 3) := by decide +kernel
theorem dX7_spoonOf_52 : decode cX7_spoonOf 52 = .ok (.iconst 4, 1) := by decide +kernel
theorem dX7_spoonOf_53 : decode cX7_spoonOf 53 = .ok (.iload_n 2, 1) := by decide +kernel
theorem dX7_spoonOf_54 : decode cX7_spoonOf 54 = .ok (.iastore, 1) := by decide +kernel
theorem dX7_spoonOf_55 : decode cX7_spoonOf 55 = .ok (.aload_n 0, 1) := by decide +kernel
theorem dX7_spoonOf_56 : decode cX7_spoonOf 56 = .ok (.getfield 78, 3) := by decide +kernel
theorem dX7_spoonOf_59 : decode cX7_spoonOf 59 = .ok (.iconst 5, 1) := by decide +kernel
theorem dX7_spoonOf_60 : decode cX7_spoonOf 60 = .ok (.iload 4, 2) := by decide +kernel
theorem dX7_spoonOf_62 : decode cX7_spoonOf 62 = .ok (.iastore, 1) := by decide +kernel
theorem dX7_spoonOf_63 : decode cX7_spoonOf 63 = .ok (.aload_n 0, 1) := by decide +kernel
theorem dX7_spoonOf_64 : decode cX7_spoonOf 64 = .ok (.getfield 78, 3) := by decide +kernel
theorem dX7_spoonOf_67 : decode cX7_spoonOf 67 = .ok (.bipush 6, 2) := by decide +kernel
theorem dX7_spoonOf_69 : decode cX7_spoonOf 69 = .ok (.aload_n 0, 1) := by decide +kernel
theorem dX7_spoonOf_70 : decode cX7_spoonOf 70 = .ok (.getfield 314, 3) := by decide +kernel
theorem dX7_spoonOf_73 : decode cX7_spoonOf 73 = .ok (.iastore, 1) := by decide +kernel
theorem dX7_spoonOf_74 : decode cX7_spoonOf 74 = .ok (.aload_n 0, 1) := by decide +kernel
theorem dX7_spoonOf_75 : decode cX7_spoonOf 75 = .ok (.getfield 78, 3) := by decide +kernel
theorem dX7_spoonOf_78 : decode cX7_spoonOf 78 = .ok (.bipush 7, 2) := by decide +kernel
theorem dX7_spoonOf_80 : decode cX7_spoonOf 80 = .ok (.iload_n 3, 1) := by decide +kernel
theorem dX7_spoonOf_81 : decode cX7_spoonOf 81 = .ok (.iastore, 1) := by decide +kernel
theorem dX7_spoonOf_82 : decode cX7_spoonOf 82 = .ok (.iload 6, 2) := by decide +kernel
theorem dX7_spoonOf_84 : decode cX7_spoonOf 84 = .ok (.iconst (-1), 1) := by decide +kernel
theorem dX7_spoonOf_85 : decode cX7_spoonOf 85 = .ok (.if_icmp .ne 19, 3) := by decide +kernel
theorem dX7_spoonOf_88 : decode cX7_spoonOf 88 = .ok (.aload_n 0, 1) := by decide +kernel
theorem dX7_spoonOf_89 : decode cX7_spoonOf 89 = .ok (.getfield 7, 3) := by decide +kernel
theorem dX7_spoonOf_92 : decode cX7_spoonOf 92 = .ok (.bipush 10, 2) := by decide +kernel
theorem dX7_spoonOf_94 : decode cX7_spoonOf 94 = .ok (.iconst 3, 1) := by decide +kernel
theorem dX7_spoonOf_95 : decode cX7_spoonOf 95 = .ok (.iload_n 1, 1) := by decide +kernel
theorem dX7_spoonOf_96 : decode cX7_spoonOf 96 = .ok (.imul, 1) := by decide +kernel
theorem dX7_spoonOf_97 : decode cX7_spoonOf 97 = .ok (.iadd, 1) := by decide +kernel
theorem dX7_spoonOf_98 : decode cX7_spoonOf 98 = .ok (.iaload, 1) := by decide +kernel
theorem dX7_spoonOf_99 : decode cX7_spoonOf 99 = .ok (.iconst 1, 1) := by decide +kernel
theorem dX7_spoonOf_100 : decode cX7_spoonOf 100 = .ok (.iadd, 1) := by decide +kernel
theorem dX7_spoonOf_101 : decode cX7_spoonOf 101 = .ok (.goto 15, 3) := by decide +kernel
theorem dX7_spoonOf_104 : decode cX7_spoonOf 104 = .ok (.aload_n 0, 1) := by decide +kernel
theorem dX7_spoonOf_105 : decode cX7_spoonOf 105 = .ok (.iload 6, 2) := by decide +kernel
theorem dX7_spoonOf_107 : decode cX7_spoonOf 107 = .ok (.invokevirtual 323, 3) := by decide +kernel
theorem dX7_spoonOf_110 : decode cX7_spoonOf 110 = .ok (.iconst 0, 1) := by decide +kernel
theorem dX7_spoonOf_111 : decode cX7_spoonOf 111 = .ok (.bipush 99, 2) := by decide +kernel
theorem dX7_spoonOf_113 : decode cX7_spoonOf 113 = .ok (.invokestatic 327, 3) := by decide +kernel
theorem dX7_spoonOf_116 : decode cX7_spoonOf 116 = .ok (.istore 7, 2) := by decide +kernel
theorem dX7_spoonOf_118 : decode cX7_spoonOf 118 = .ok (.iload 7, 2) := by decide +kernel
theorem dX7_spoonOf_120 : decode cX7_spoonOf 120 = .ok (.iload 4, 2) := by decide +kernel
theorem dX7_spoonOf_122 : decode cX7_spoonOf 122 = .ok (.iload 5, 2) := by decide +kernel
theorem dX7_spoonOf_124 : decode cX7_spoonOf 124 = .ok (.invokestatic 334, 3) := by decide +kernel
theorem dX7_spoonOf_127 : decode cX7_spoonOf 127 = .ok (.invokestatic 334, 3) := by decide +kernel
theorem dX7_spoonOf_130 : decode cX7_spoonOf 130 = .ok (.ireturn, 1) := by decide +kernel
theorem dX7_eats_0 : decode cX7_eats 0 = .ok (.aload_n 0, 1) := by decide +kernel
theorem dX7_eats_1 : decode cX7_eats 1 = .ok (.iload_n 1, 1) := by decide +kernel
theorem dX7_eats_2 : decode cX7_eats 2 = .ok (.iload_n 2, 1) := by decide +kernel
theorem dX7_eats_3 : decode cX7_eats 3 = .ok (.invokevirtual 337, 3) := by decide +kernel
theorem dX7_eats_6 : decode cX7_eats 6 = .ok (.istore_n 3, 1) := by decide +kernel
theorem dX7_eats_7 : decode cX7_eats 7 = .ok (.iload_n 3, 1) := by decide +kernel
theorem dX7_eats_8 : decode cX7_eats 8 = .ok (.ifCond .le 45, 3) := by decide +kernel
theorem dX7_eats_11 : decode cX7_eats 11 = .ok (.aload_n 0, 1) := by decide +kernel
theorem dX7_eats_12 : decode cX7_eats 12 = .ok (.getfield 85, 3) := by decide +kernel
theorem dX7_eats_15 : decode cX7_eats 15 = .ok (.iconst 2, 1) := by decide +kernel
theorem dX7_eats_16 : decode cX7_eats 16 = .ok (.aload_n 0, 1) := by decide +kernel
theorem dX7_eats_17 : decode cX7_eats 17 = .ok (.getfield 7, 3) := by decide +kernel
theorem dX7_eats_20 : decode cX7_eats 20 = .ok (.bipush 114, 2) := by decide +kernel
theorem dX7_eats_22 : decode cX7_eats 22 = .ok (.iload_n 1, 1) := by decide +kernel
theorem dX7_eats_23 : decode cX7_eats 23 = .ok (.iadd, 1) := by decide +kernel
theorem dX7_eats_24 : decode cX7_eats 24 = .ok (.iaload, 1) := by decide +kernel
theorem dX7_eats_25 : decode cX7_eats 25 = .ok (.imul, 1) := by decide +kernel
theorem dX7_eats_26 : decode cX7_eats 26 = .ok (.iload_n 2, 1) := by decide +kernel
theorem dX7_eats_27 : decode cX7_eats 27 = .ok (.iadd, 1) := by decide +kernel
theorem dX7_eats_28 : decode cX7_eats 28 = .ok (.dup2, 1) := by decide +kernel
theorem dX7_eats_29 : decode cX7_eats 29 = .ok (.iaload, 1) := by decide +kernel
theorem dX7_eats_30 : decode cX7_eats 30 = .ok (.iload_n 3, 1) := by decide +kernel
theorem dX7_eats_31 : decode cX7_eats 31 = .ok (.isub, 1) := by decide +kernel
theorem dX7_eats_32 : decode cX7_eats 32 = .ok (.iastore, 1) := by decide +kernel
theorem dX7_eats_33 : decode cX7_eats 33 = .ok (.aload_n 0, 1) := by decide +kernel
theorem dX7_eats_34 : decode cX7_eats 34 = .ok (.getfield 88, 3) := by decide +kernel
theorem dX7_eats_37 : decode cX7_eats 37 = .ok (.iload_n 1, 1) := by decide +kernel
theorem dX7_eats_38 : decode cX7_eats 38 = .ok (.dup2, 1) := by decide +kernel
theorem dX7_eats_39 : decode cX7_eats 39 = .ok (.iaload, 1) := by decide +kernel
theorem dX7_eats_40 : decode cX7_eats 40 = .ok (.iload_n 3, 1) := by decide +kernel
theorem dX7_eats_41 : decode cX7_eats 41 = .ok (.iadd, 1) := by decide +kernel
theorem dX7_eats_42 : decode cX7_eats 42 = .ok (.iastore, 1) := by decide +kernel
theorem dX7_eats_43 : decode cX7_eats 43 = .ok (.aload_n 0, 1) := by decide +kernel
theorem dX7_eats_44 : decode cX7_eats 44 = .ok (.dup, 1) := by decide +kernel
theorem dX7_eats_45 : decode cX7_eats 45 = .ok (.getfield 314, 3) := by decide +kernel
theorem dX7_eats_48 : decode cX7_eats 48 = .ok (.iconst 1, 1) := by decide +kernel
theorem dX7_eats_49 : decode cX7_eats 49 = .ok (.iadd, 1) := by decide +kernel
theorem dX7_eats_50 : decode cX7_eats 50 = .ok (.putfield 314, 3) := by decide +kernel
theorem dX7_eats_53 : decode cX7_eats 53 = .ok (.iload_n 3, 1) := by decide +kernel
theorem dX7_eats_54 : decode cX7_eats 54 = .ok (.ireturn, 1) := by decide +kernel
theorem dX7_tilt_0 : decode cX7_tilt 0 = .ok (.aload_n 0, 1) := by decide +kernel
theorem dX7_tilt_1 : decode cX7_tilt 1 = .ok (.getfield 85, 3) := by decide +kernel
theorem dX7_tilt_4 : decode cX7_tilt 4 = .ok (.iconst 0, 1) := by decide +kernel
theorem dX7_tilt_5 : decode cX7_tilt 5 = .ok (.iaload, 1) := by decide +kernel
theorem dX7_tilt_6 : decode cX7_tilt 6 = .ok (.aload_n 0, 1) := by decide +kernel
theorem dX7_tilt_7 : decode cX7_tilt 7 = .ok (.getfield 85, 3) := by decide +kernel
theorem dX7_tilt_10 : decode cX7_tilt 10 = .ok (.iconst 1, 1) := by decide +kernel
theorem dX7_tilt_11 : decode cX7_tilt 11 = .ok (.iaload, 1) := by decide +kernel
theorem dX7_tilt_12 : decode cX7_tilt 12 = .ok (.iadd, 1) := by decide +kernel
theorem dX7_tilt_13 : decode cX7_tilt 13 = .ok (.aload_n 0, 1) := by decide +kernel
theorem dX7_tilt_14 : decode cX7_tilt 14 = .ok (.getfield 85, 3) := by decide +kernel
theorem dX7_tilt_17 : decode cX7_tilt 17 = .ok (.iconst 2, 1) := by decide +kernel
theorem dX7_tilt_18 : decode cX7_tilt 18 = .ok (.iaload, 1) := by decide +kernel
theorem dX7_tilt_19 : decode cX7_tilt 19 = .ok (.isub, 1) := by decide +kernel
theorem dX7_tilt_20 : decode cX7_tilt 20 = .ok (.aload_n 0, 1) := by decide +kernel
theorem dX7_tilt_21 : decode cX7_tilt 21 = .ok (.getfield 85, 3) := by decide +kernel
theorem dX7_tilt_24 : decode cX7_tilt 24 = .ok (.iconst 3, 1) := by decide +kernel
theorem dX7_tilt_25 : decode cX7_tilt 25 = .ok (.iaload, 1) := by decide +kernel
theorem dX7_tilt_26 : decode cX7_tilt 26 = .ok (.isub, 1) := by decide +kernel
theorem dX7_tilt_27 : decode cX7_tilt 27 = .ok (.ireturn, 1) := by decide +kernel
theorem dX7_isGuilty_0 : decode cX7_isGuilty 0 = .ok (.aload_n 0, 1) := by decide +kernel
theorem dX7_isGuilty_1 : decode cX7_isGuilty 1 = .ok (.iconst 2, 1) := by decide +kernel
theorem dX7_isGuilty_2 : decode cX7_isGuilty 2 = .ok (.invokevirtual 317, 3) := by decide +kernel
theorem dX7_isGuilty_5 : decode cX7_isGuilty 5 = .ok (.istore_n 2, 1) := by decide +kernel
theorem dX7_isGuilty_6 : decode cX7_isGuilty 6 = .ok (.aload_n 0, 1) := by decide +kernel
theorem dX7_isGuilty_7 : decode cX7_isGuilty 7 = .ok (.invokevirtual 340, 3) := by decide +kernel
theorem dX7_isGuilty_10 : decode cX7_isGuilty 10 = .ok (.istore_n 3, 1) := by decide +kernel
theorem dX7_isGuilty_11 : decode cX7_isGuilty 11 = .ok (.iload_n 2, 1) := by decide +kernel
theorem dX7_isGuilty_12 : decode cX7_isGuilty 12 = .ok (.iconst (-1), 1) := by decide +kernel
theorem dX7_isGuilty_13 : decode cX7_isGuilty 13 = .ok (.if_icmp .ne 29, 3) := by decide +kernel
theorem dX7_isGuilty_16 : decode cX7_isGuilty 16 = .ok (.iload_n 1, 1) := by decide +kernel
theorem dX7_isGuilty_17 : decode cX7_isGuilty 17 = .ok (.ifCond .ne 15, 3) := by decide +kernel
theorem dX7_isGuilty_20 : decode cX7_isGuilty 20 = .ok (.iload_n 3, 1) := by decide +kernel
theorem dX7_isGuilty_21 : decode cX7_isGuilty 21 = .ok (.ifCond .ge 7, 3) := by decide +kernel
theorem dX7_isGuilty_24 : decode cX7_isGuilty 24 = .ok (.iconst 1, 1) := by decide +kernel
theorem dX7_isGuilty_25 : decode cX7_isGuilty 25 = .ok (.goto 16, 3) := by decide +kernel
theorem dX7_isGuilty_28 : decode cX7_isGuilty 28 = .ok (.iconst 0, 1) := by decide +kernel
theorem dX7_isGuilty_29 : decode cX7_isGuilty 29 = .ok (.goto 12, 3) := by decide +kernel
theorem dX7_isGuilty_32 : decode cX7_isGuilty 32 = .ok (.iload_n 3, 1) := by decide +kernel
theorem dX7_isGuilty_33 : decode cX7_isGuilty 33 = .ok (.ifCond .le 7, 3) := by decide +kernel
theorem dX7_isGuilty_36 : decode cX7_isGuilty 36 = .ok (.iconst 1, 1) := by decide +kernel
theorem dX7_isGuilty_37 : decode cX7_isGuilty 37 = .ok (.goto 4, 3) := by decide +kernel
theorem dX7_isGuilty_40 : decode cX7_isGuilty 40 = .ok (.iconst 0, 1) := by decide +kernel
theorem dX7_isGuilty_41 : decode cX7_isGuilty 41 = .ok (.ireturn, 1) := by decide +kernel
theorem dX7_isGuilty_42 : decode cX7_isGuilty 42 = .ok (.aload_n 0, 1) := by decide +kernel
theorem dX7_isGuilty_43 : decode cX7_isGuilty 43 = .ok (.getfield 78, 3) := by decide +kernel
theorem dX7_isGuilty_46 : decode cX7_isGuilty 46 = .ok (.bipush 7, 2) := by decide +kernel
theorem dX7_isGuilty_48 : decode cX7_isGuilty 48 = .ok (.iload_n 1, 1) := by decide +kernel
theorem dX7_isGuilty_49 : decode cX7_isGuilty 49 = .ok (.iastore, 1) := by decide +kernel
theorem dX7_isGuilty_50 : decode cX7_isGuilty 50 = .ok (.aload_n 0, 1) := by decide +kernel
theorem dX7_isGuilty_51 : decode cX7_isGuilty 51 = .ok (.getfield 78, 3) := by decide +kernel
theorem dX7_isGuilty_54 : decode cX7_isGuilty 54 = .ok (.bipush 8, 2) := by decide +kernel
theorem dX7_isGuilty_56 : decode cX7_isGuilty 56 = .ok (.iload_n 3, 1) := by decide +kernel
theorem dX7_isGuilty_57 : decode cX7_isGuilty 57 = .ok (.iastore, 1) := by decide +kernel
theorem dX7_isGuilty_58 : decode cX7_isGuilty 58 = .ok (.aload_n 0, 1) := by decide +kernel
theorem dX7_isGuilty_59 : decode cX7_isGuilty 59 = .ok (.getfield 78, 3) := by decide +kernel
theorem dX7_isGuilty_62 : decode cX7_isGuilty 62 = .ok (.bipush 9, 2) := by decide +kernel
theorem dX7_isGuilty_64 : decode cX7_isGuilty 64 = .ok (.aload_n 0, 1) := by decide +kernel
theorem dX7_isGuilty_65 : decode cX7_isGuilty 65 = .ok (.getfield 85, 3) := by decide +kernel
theorem dX7_isGuilty_68 : decode cX7_isGuilty 68 = .ok (.iconst 2, 1) := by decide +kernel
theorem dX7_isGuilty_69 : decode cX7_isGuilty 69 = .ok (.iload_n 1, 1) := by decide +kernel
theorem dX7_isGuilty_70 : decode cX7_isGuilty 70 = .ok (.imul, 1) := by decide +kernel
theorem dX7_isGuilty_71 : decode cX7_isGuilty 71 = .ok (.iaload, 1) := by decide +kernel
theorem dX7_isGuilty_72 : decode cX7_isGuilty 72 = .ok (.iastore, 1) := by decide +kernel
theorem dX7_isGuilty_73 : decode cX7_isGuilty 73 = .ok (.aload_n 0, 1) := by decide +kernel
theorem dX7_isGuilty_74 : decode cX7_isGuilty 74 = .ok (.getfield 78, 3) := by decide +kernel
theorem dX7_isGuilty_77 : decode cX7_isGuilty 77 = .ok (.bipush 10, 2) := by decide +kernel
theorem dX7_isGuilty_79 : decode cX7_isGuilty 79 = .ok (.aload_n 0, 1) := by decide +kernel
theorem dX7_isGuilty_80 : decode cX7_isGuilty 80 = .ok (.getfield 85, 3) := by decide +kernel
theorem dX7_isGuilty_83 : decode cX7_isGuilty 83 = .ok (.iconst 2, 1) := by decide +kernel
theorem dX7_isGuilty_84 : decode cX7_isGuilty 84 = .ok (.iload_n 1, 1) := by decide +kernel
theorem dX7_isGuilty_85 : decode cX7_isGuilty 85 = .ok (.imul, 1) := by decide +kernel
theorem dX7_isGuilty_86 : decode cX7_isGuilty 86 = .ok (.iconst 1, 1) := by decide +kernel
theorem dX7_isGuilty_87 : decode cX7_isGuilty 87 = .ok (.iadd, 1) := by decide +kernel
theorem dX7_isGuilty_88 : decode cX7_isGuilty 88 = .ok (.iaload, 1) := by decide +kernel
theorem dX7_isGuilty_89 : decode cX7_isGuilty 89 = .ok (.iastore, 1) := by decide +kernel
theorem dX7_isGuilty_90 : decode cX7_isGuilty 90 = .ok (.aload_n 0, 1) := by decide +kernel
theorem dX7_isGuilty_91 : decode cX7_isGuilty 91 = .ok (.getfield 78, 3) := by decide +kernel
theorem dX7_isGuilty_94 : decode cX7_isGuilty 94 = .ok (.bipush 11, 2) := by decide +kernel
theorem dX7_isGuilty_96 : decode cX7_isGuilty 96 = .ok (.aload_n 0, 1) := by decide +kernel
theorem dX7_isGuilty_97 : decode cX7_isGuilty 97 = .ok (.getfield 7, 3) := by decide +kernel
theorem dX7_isGuilty_100 : decode cX7_isGuilty 100 = .ok (.sipush 373, 3) := by decide +kernel
theorem dX7_isGuilty_103 : decode cX7_isGuilty 103 = .ok (.iaload, 1) := by decide +kernel
theorem dX7_isGuilty_104 : decode cX7_isGuilty 104 = .ok (.iastore, 1) := by decide +kernel
theorem dX7_isGuilty_105 : decode cX7_isGuilty 105 = .ok (.aload_n 0, 1) := by decide +kernel
theorem dX7_isGuilty_106 : decode cX7_isGuilty 106 = .ok (.iload_n 2, 1) := by decide +kernel
theorem dX7_isGuilty_107 : decode cX7_isGuilty 107 = .ok (.invokevirtual 323, 3) := by decide +kernel
theorem dX7_isGuilty_110 : decode cX7_isGuilty 110 = .ok (.lconst 0, 1) := by decide +kernel
theorem dX7_isGuilty_111 : decode cX7_isGuilty 111 = .ok (.lcmp, 1) := by decide +kernel
theorem dX7_isGuilty_112 : decode cX7_isGuilty 112 = .ok (.ifCond .le 7, 3) := by decide +kernel
theorem dX7_isGuilty_115 : decode cX7_isGuilty 115 = .ok (.iconst 1, 1) := by decide +kernel
theorem dX7_isGuilty_116 : decode cX7_isGuilty 116 = .ok (.goto 4, 3) := by decide +kernel
theorem dX7_isGuilty_119 : decode cX7_isGuilty 119 = .ok (.iconst 0, 1) := by decide +kernel
theorem dX7_isGuilty_120 : decode cX7_isGuilty 120 = .ok (.ireturn, 1) := by decide +kernel
theorem dX7_sit_0 : decode cX7_sit 0 = .ok (.aload_n 0, 1) := by decide +kernel
theorem dX7_sit_1 : decode cX7_sit 1 = .ok (.iload_n 1, 1) := by decide +kernel
theorem dX7_sit_2 : decode cX7_sit 2 = .ok (.invokevirtual 343, 3) := by decide +kernel
theorem dX7_sit_5 : decode cX7_sit 5 = .ok (.ifCond .eq 25, 3) := by decide +kernel
theorem dX7_sit_8 : decode cX7_sit 8 = .ok (.iload_n 2, 1) := by decide +kernel
theorem dX7_sit_9 : decode cX7_sit 9 = .ok (.iconst 0, 1) := by decide +kernel
theorem dX7_sit_10 : decode cX7_sit 10 = .ok (.iconst 2, 1) := by decide +kernel
theorem dX7_sit_11 : decode cX7_sit 11 = .ok (.invokestatic 110, 3) := by decide +kernel
theorem dX7_sit_14 : decode cX7_sit 14 = .ok (.ifCond .eq 16, 3) := by decide +kernel
theorem dX7_sit_17 : decode cX7_sit 17 = .ok (.aload_n 0, 1) := by decide +kernel
theorem dX7_sit_18 : decode cX7_sit 18 = .ok (.getfield 7, 3) := by decide +kernel
theorem dX7_sit_21 : decode cX7_sit 21 = .ok (.bipush 114, 2) := by decide +kernel
theorem dX7_sit_23 : decode cX7_sit 23 = .ok (.iload_n 1, 1) := by decide +kernel
theorem dX7_sit_24 : decode cX7_sit 24 = .ok (.iadd, 1) := by decide +kernel
theorem dX7_sit_25 : decode cX7_sit 25 = .ok (.iaload, 1) := by decide +kernel
theorem dX7_sit_26 : decode cX7_sit 26 = .ok (.iload_n 2, 1) := by decide +kernel
theorem dX7_sit_27 : decode cX7_sit 27 = .ok (.if_icmp .ne 5, 3) := by decide +kernel
theorem dX7_sit_30 : decode cX7_sit 30 = .ok (.iconst 0, 1) := by decide +kernel
theorem dX7_sit_31 : decode cX7_sit 31 = .ok (.ireturn, 1) := by decide +kernel
theorem dX7_sit_32 : decode cX7_sit 32 = .ok (.aload_n 0, 1) := by decide +kernel
theorem dX7_sit_33 : decode cX7_sit 33 = .ok (.invokevirtual 346, 3) := by decide +kernel
theorem dX7_sit_36 : decode cX7_sit 36 = .ok (.aload_n 0, 1) := by decide +kernel
theorem dX7_sit_37 : decode cX7_sit 37 = .ok (.getfield 7, 3) := by decide +kernel
theorem dX7_sit_40 : decode cX7_sit 40 = .ok (.bipush 114, 2) := by decide +kernel
theorem dX7_sit_42 : decode cX7_sit 42 = .ok (.iload_n 1, 1) := by decide +kernel
theorem dX7_sit_43 : decode cX7_sit 43 = .ok (.iadd, 1) := by decide +kernel
theorem dX7_sit_44 : decode cX7_sit 44 = .ok (.iload_n 2, 1) := by decide +kernel
theorem dX7_sit_45 : decode cX7_sit 45 = .ok (.iastore, 1) := by decide +kernel
theorem dX7_sit_46 : decode cX7_sit 46 = .ok (.iconst 1, 1) := by decide +kernel
theorem dX7_sit_47 : decode cX7_sit 47 = .ok (.ireturn, 1) := by decide +kernel
theorem dX7_spoon_0 : decode cX7_spoon 0 = .ok (.aload_n 0, 1) := by decide +kernel
theorem dX7_spoon_1 : decode cX7_spoon 1 = .ok (.iload_n 1, 1) := by decide +kernel
theorem dX7_spoon_2 : decode cX7_spoon 2 = .ok (.invokevirtual 343, 3) := by decide +kernel
theorem dX7_spoon_5 : decode cX7_spoon 5 = .ok (.ifCond .eq 23, 3) := by decide +kernel
theorem dX7_spoon_8 : decode cX7_spoon 8 = .ok (.iload_n 2, 1) := by decide +kernel
theorem dX7_spoon_9 : decode cX7_spoon 9 = .ok (.invokestatic 114, 3) := by decide +kernel
theorem dX7_spoon_12 : decode cX7_spoon 12 = .ok (.ifCond .eq 16, 3) := by decide +kernel
theorem dX7_spoon_15 : decode cX7_spoon 15 = .ok (.aload_n 0, 1) := by decide +kernel
theorem dX7_spoon_16 : decode cX7_spoon 16 = .ok (.getfield 7, 3) := by decide +kernel
theorem dX7_spoon_19 : decode cX7_spoon 19 = .ok (.sipush 132, 3) := by decide +kernel
theorem dX7_spoon_22 : decode cX7_spoon 22 = .ok (.iaload, 1) := by decide +kernel
theorem dX7_spoon_23 : decode cX7_spoon 23 = .ok (.bipush 60, 2) := by decide +kernel
theorem dX7_spoon_25 : decode cX7_spoon 25 = .ok (.if_icmp .ne 5, 3) := by decide +kernel
theorem dX7_spoon_28 : decode cX7_spoon 28 = .ok (.iconst (-1), 1) := by decide +kernel
theorem dX7_spoon_29 : decode cX7_spoon 29 = .ok (.ireturn, 1) := by decide +kernel
theorem dX7_spoon_30 : decode cX7_spoon 30 = .ok (.aload_n 0, 1) := by decide +kernel
theorem dX7_spoon_31 : decode cX7_spoon 31 = .ok (.invokevirtual 349, 3) := by decide +kernel
theorem dX7_spoon_34 : decode cX7_spoon 34 = .ok (.aload_n 0, 1) := by decide +kernel
theorem dX7_spoon_35 : decode cX7_spoon 35 = .ok (.iload_n 1, 1) := by decide +kernel
theorem dX7_spoon_36 : decode cX7_spoon 36 = .ok (.iload_n 2, 1) := by decide +kernel
theorem dX7_spoon_37 : decode cX7_spoon 37 = .ok (.invokevirtual 337, 3) := by decide +kernel
theorem dX7_spoon_40 : decode cX7_spoon 40 = .ok (.istore_n 3, 1) := by decide +kernel
theorem dX7_spoon_41 : decode cX7_spoon 41 = .ok (.iload_n 3, 1) := by decide +kernel
theorem dX7_spoon_42 : decode cX7_spoon 42 = .ok (.ifCond .ne 5, 3) := by decide +kernel
theorem dX7_spoon_45 : decode cX7_spoon 45 = .ok (.iconst (-1), 1) := by decide +kernel
theorem dX7_spoon_46 : decode cX7_spoon 46 = .ok (.ireturn, 1) := by decide +kernel
theorem dX7_spoon_47 : decode cX7_spoon 47 = .ok (.aload_n 0, 1) := by decide +kernel
theorem dX7_spoon_48 : decode cX7_spoon 48 = .ok (.invokevirtual 346, 3) := by decide +kernel
theorem dX7_spoon_51 : decode cX7_spoon 51 = .ok (.aload_n 0, 1) := by decide +kernel
theorem dX7_spoon_52 : decode cX7_spoon 52 = .ok (.getfield 7, 3) := by decide +kernel
theorem dX7_spoon_55 : decode cX7_spoon 55 = .ok (.bipush 114, 2) := by decide +kernel
theorem dX7_spoon_57 : decode cX7_spoon 57 = .ok (.iload_n 1, 1) := by decide +kernel
theorem dX7_spoon_58 : decode cX7_spoon 58 = .ok (.iadd, 1) := by decide +kernel
theorem dX7_spoon_59 : decode cX7_spoon 59 = .ok (.iaload, 1) := by decide +kernel
theorem dX7_spoon_60 : decode cX7_spoon 60 = .ok (.istore 4, 2) := by decide +kernel
theorem dX7_spoon_62 : decode cX7_spoon 62 = .ok (.aload_n 0, 1) := by decide +kernel
theorem dX7_spoon_63 : decode cX7_spoon 63 = .ok (.getfield 7, 3) := by decide +kernel
theorem dX7_spoon_66 : decode cX7_spoon 66 = .ok (.bipush 110, 2) := by decide +kernel
theorem dX7_spoon_68 : decode cX7_spoon 68 = .ok (.iconst 2, 1) := by decide +kernel
theorem dX7_spoon_69 : decode cX7_spoon 69 = .ok (.iload 4, 2) := by decide +kernel
theorem dX7_spoon_71 : decode cX7_spoon 71 = .ok (.imul, 1) := by decide +kernel
theorem dX7_spoon_72 : decode cX7_spoon 72 = .ok (.iadd, 1) := by decide +kernel
theorem dX7_spoon_73 : decode cX7_spoon 73 = .ok (.iload_n 2, 1) := by decide +kernel
theorem dX7_spoon_74 : decode cX7_spoon 74 = .ok (.iadd, 1) := by decide +kernel
theorem dX7_spoon_75 : decode cX7_spoon 75 = .ok (.dup2, 1) := by decide +kernel
theorem dX7_spoon_76 : decode cX7_spoon 76 = .ok (.iaload, 1) := by decide +kernel
theorem dX7_spoon_77 : decode cX7_spoon 77 = .ok (.iload_n 3, 1) := by decide +kernel
theorem dX7_spoon_78 : decode cX7_spoon 78 = .ok (.isub, 1) := by decide +kernel
theorem dX7_spoon_79 : decode cX7_spoon 79 = .ok (.iastore, 1) := by decide +kernel
theorem dX7_spoon_80 : decode cX7_spoon 80 = .ok (.aload_n 0, 1) := by decide +kernel
theorem dX7_spoon_81 : decode cX7_spoon 81 = .ok (.getfield 7, 3) := by decide +kernel
theorem dX7_spoon_84 : decode cX7_spoon 84 = .ok (.bipush 123, 2) := by decide +kernel
theorem dX7_spoon_86 : decode cX7_spoon 86 = .ok (.iload_n 1, 1) := by decide +kernel
theorem dX7_spoon_87 : decode cX7_spoon 87 = .ok (.iadd, 1) := by decide +kernel
theorem dX7_spoon_88 : decode cX7_spoon 88 = .ok (.dup2, 1) := by decide +kernel
theorem dX7_spoon_89 : decode cX7_spoon 89 = .ok (.iaload, 1) := by decide +kernel
theorem dX7_spoon_90 : decode cX7_spoon 90 = .ok (.iload_n 3, 1) := by decide +kernel
theorem dX7_spoon_91 : decode cX7_spoon 91 = .ok (.iadd, 1) := by decide +kernel
theorem dX7_spoon_92 : decode cX7_spoon 92 = .ok (.iastore, 1) := by decide +kernel
theorem dX7_spoon_93 : decode cX7_spoon 93 = .ok (.sipush 133, 3) := by decide +kernel
theorem dX7_spoon_96 : decode cX7_spoon 96 = .ok (.iconst 4, 1) := by decide +kernel
theorem dX7_spoon_97 : decode cX7_spoon 97 = .ok (.aload_n 0, 1) := by decide +kernel
theorem dX7_spoon_98 : decode cX7_spoon 98 = .ok (.getfield 7, 3) := by decide +kernel
theorem dX7_spoon_101 : decode cX7_spoon 101 = .ok (.sipush 132, 3) := by decide +kernel
theorem dX7_spoon_104 : decode cX7_spoon 104 = .ok (.iaload, 1) := by decide +kernel
theorem dX7_spoon_105 : decode cX7_spoon 105 = .ok (.imul, 1) := by decide +kernel
theorem dX7_spoon_106 : decode cX7_spoon 106 = .ok (.iadd, 1) := by decide +kernel
theorem dX7_spoon_107 : decode cX7_spoon 107 = .ok (.istore 5, 2) := by decide +kernel
theorem dX7_spoon_109 : decode cX7_spoon 109 = .ok (.aload_n 0, 1) := by decide +kernel
theorem dX7_spoon_110 : decode cX7_spoon 110 = .ok (.getfield 7, 3) := by decide +kernel
theorem dX7_spoon_113 : decode cX7_spoon 113 = .ok (.iload 5, 2) := by decide +kernel
theorem dX7_spoon_115 : decode cX7_spoon 115 = .ok (.iload_n 1, 1) := by decide +kernel
theorem dX7_spoon_116 : decode cX7_spoon 116 = .ok (.iastore, 1) := by decide +kernel
theorem dX7_spoon_117 : decode cX7_spoon 117 = .ok (.aload_n 0, 1) := by decide +kernel
theorem dX7_spoon_118 : decode cX7_spoon 118 = .ok (.getfield 7, 3) := by decide +kernel
theorem dX7_spoon_121 : decode cX7_spoon 121 = .ok (.iload 5, 2) := by decide +kernel
theorem dX7_spoon_123 : decode cX7_spoon 123 = .ok (.iconst 1, 1) := by decide +kernel
theorem dX7_spoon_124 : decode cX7_spoon 124 = .ok (.iadd, 1) := by decide +kernel
theorem dX7_spoon_125 : decode cX7_spoon 125 = .ok (.iload 4, 2) := by decide +kernel
theorem dX7_spoon_127 : decode cX7_spoon 127 = .ok (.iastore, 1) := by decide +kernel
theorem dX7_spoon_128 : decode cX7_spoon 128 = .ok (.aload_n 0, 1) := by decide +kernel
theorem dX7_spoon_129 : decode cX7_spoon 129 = .ok (.getfield 7, 3) := by decide +kernel
theorem dX7_spoon_132 : decode cX7_spoon 132 = .ok (.iload 5, 2) := by decide +kernel
theorem dX7_spoon_134 : decode cX7_spoon 134 = .ok (.iconst 2, 1) := by decide +kernel
theorem dX7_spoon_135 : decode cX7_spoon 135 = .ok (.iadd, 1) := by decide +kernel
theorem dX7_spoon_136 : decode cX7_spoon 136 = .ok (.iload_n 2, 1) := by decide +kernel
theorem dX7_spoon_137 : decode cX7_spoon 137 = .ok (.iastore, 1) := by decide +kernel
theorem dX7_spoon_138 : decode cX7_spoon 138 = .ok (.aload_n 0, 1) := by decide +kernel
theorem dX7_spoon_139 : decode cX7_spoon 139 = .ok (.getfield 7, 3) := by decide +kernel
theorem dX7_spoon_142 : decode cX7_spoon 142 = .ok (.iload 5, 2) := by decide +kernel
theorem dX7_spoon_144 : decode cX7_spoon 144 = .ok (.iconst 3, 1) := by decide +kernel
theorem dX7_spoon_145 : decode cX7_spoon 145 = .ok (.iadd, 1) := by decide +kernel
theorem dX7_spoon_146 : decode cX7_spoon 146 = .ok (.iload_n 3, 1) := by decide +kernel
theorem dX7_spoon_147 : decode cX7_spoon 147 = .ok (.iastore, 1) := by decide +kernel
theorem dX7_spoon_148 : decode cX7_spoon 148 = .ok (.aload_n 0, 1) := by decide +kernel
theorem dX7_spoon_149 : decode cX7_spoon 149 = .ok (.getfield 7, 3) := by decide +kernel
theorem dX7_spoon_152 : decode cX7_spoon 152 = .ok (.sipush 132, 3) := by decide +kernel
theorem dX7_spoon_155 : decode cX7_spoon 155 = .ok (.dup2, 1) := by decide +kernel
theorem dX7_spoon_156 : decode cX7_spoon 156 = .ok (.iaload, 1) := by decide +kernel
theorem dX7_spoon_157 : decode cX7_spoon 157 = .ok (.iconst 1, 1) := by decide +kernel
theorem dX7_spoon_158 : decode cX7_spoon 158 = .ok (.iadd, 1) := by decide +kernel
theorem dX7_spoon_159 : decode cX7_spoon 159 = .ok (.iastore, 1) := by decide +kernel
theorem dX7_spoon_160 : decode cX7_spoon 160 = .ok (.iload_n 3, 1) := by decide +kernel
theorem dX7_spoon_161 : decode cX7_spoon 161 = .ok (.ireturn, 1) := by decide +kernel
theorem dX7_judge_0 : decode cX7_judge 0 = .ok (.iload_n 1, 1) := by decide +kernel
theorem dX7_judge_1 : decode cX7_judge 1 = .ok (.invokestatic 114, 3) := by decide +kernel
theorem dX7_judge_4 : decode cX7_judge 4 = .ok (.ifCond .eq 16, 3) := by decide +kernel
theorem dX7_judge_7 : decode cX7_judge 7 = .ok (.aload_n 0, 1) := by decide +kernel
theorem dX7_judge_8 : decode cX7_judge 8 = .ok (.getfield 7, 3) := by decide +kernel
theorem dX7_judge_11 : decode cX7_judge 11 = .ok (.sipush 373, 3) := by decide +kernel
theorem dX7_judge_14 : decode cX7_judge 14 = .ok (.iaload, 1) := by decide +kernel
theorem dX7_judge_15 : decode cX7_judge 15 = .ok (.bipush 30, 2) := by decide +kernel
theorem dX7_judge_17 : decode cX7_judge 17 = .ok (.if_icmp .ne 5, 3) := by decide +kernel
theorem dX7_judge_20 : decode cX7_judge 20 = .ok (.iconst (-1), 1) := by decide +kernel
theorem dX7_judge_21 : decode cX7_judge 21 = .ok (.ireturn, 1) := by decide +kernel
theorem dX7_judge_22 : decode cX7_judge 22 = .ok (.aload_n 0, 1) := by decide +kernel
theorem dX7_judge_23 : decode cX7_judge 23 = .ok (.invokevirtual 349, 3) := by decide +kernel
theorem dX7_judge_26 : decode cX7_judge 26 = .ok (.aload_n 0, 1) := by decide +kernel
theorem dX7_judge_27 : decode cX7_judge 27 = .ok (.iload_n 1, 1) := by decide +kernel
theorem dX7_judge_28 : decode cX7_judge 28 = .ok (.invokevirtual 352, 3) := by decide +kernel
theorem dX7_judge_31 : decode cX7_judge 31 = .ok (.ifCond .eq 7, 3) := by decide +kernel
theorem dX7_judge_34 : decode cX7_judge 34 = .ok (.iconst 1, 1) := by decide +kernel
theorem dX7_judge_35 : decode cX7_judge 35 = .ok (.goto 4, 3) := by decide +kernel
theorem dX7_judge_38 : decode cX7_judge 38 = .ok (.iconst 0, 1) := by decide +kernel
theorem dX7_judge_39 : decode cX7_judge 39 = .ok (.istore_n 2, 1) := by decide +kernel
theorem dX7_judge_40 : decode cX7_judge 40 = .ok (.aload_n 0, 1) := by decide +kernel
theorem dX7_judge_41 : decode cX7_judge 41 = .ok (.invokevirtual 346, 3) := by decide +kernel
theorem dX7_judge_44 : decode cX7_judge 44 = .ok (.sipush 374, 3) := by decide +kernel
theorem dX7_judge_47 : decode cX7_judge 47 = .ok (.iconst 3, 1) := by decide +kernel
theorem dX7_judge_48 : decode cX7_judge 48 = .ok (.aload_n 0, 1) := by decide +kernel
theorem dX7_judge_49 : decode cX7_judge 49 = .ok (.getfield 7, 3) := by decide +kernel
theorem dX7_judge_52 : decode cX7_judge 52 = .ok (.sipush 373, 3) := by decide +kernel
theorem dX7_judge_55 : decode cX7_judge 55 = .ok (.iaload, 1) := by decide +kernel
theorem dX7_judge_56 : decode cX7_judge 56 = .ok (.imul, 1) := by decide +kernel
theorem dX7_judge_57 : decode cX7_judge 57 = .ok (.iadd, 1) := by decide +kernel
theorem dX7_judge_58 : decode cX7_judge 58 = .ok (.istore_n 3, 1) := by decide +kernel
theorem dX7_judge_59 : decode cX7_judge 59 = .ok (.aload_n 0, 1) := by decide +kernel
theorem dX7_judge_60 : decode cX7_judge 60 = .ok (.getfield 7, 3) := by decide +kernel
theorem dX7_judge_63 : decode cX7_judge 63 = .ok (.iload_n 3, 1) := by decide +kernel
theorem dX7_judge_64 : decode cX7_judge 64 = .ok (.iload_n 1, 1) := by decide +kernel
theorem dX7_judge_65 : decode cX7_judge 65 = .ok (.iastore, 1) := by decide +kernel
theorem dX7_judge_66 : decode cX7_judge 66 = .ok (.aload_n 0, 1) := by decide +kernel
theorem dX7_judge_67 : decode cX7_judge 67 = .ok (.getfield 7, 3) := by decide +kernel
theorem dX7_judge_70 : decode cX7_judge 70 = .ok (.iload_n 3, 1) := by decide +kernel
theorem dX7_judge_71 : decode cX7_judge 71 = .ok (.iconst 1, 1) := by decide +kernel
theorem dX7_judge_72 : decode cX7_judge 72 = .ok (.iadd, 1) := by decide +kernel
theorem dX7_judge_73 : decode cX7_judge 73 = .ok (.aload_n 0, 1) := by decide +kernel
theorem dX7_judge_74 : decode cX7_judge 74 = .ok (.invokevirtual 340, 3) := by decide +kernel
theorem dX7_judge_77 : decode cX7_judge 77 = .ok (.iastore, 1) := by decide +kernel
theorem dX7_judge_78 : decode cX7_judge 78 = .ok (.aload_n 0, 1) := by decide +kernel
theorem dX7_judge_79 : decode cX7_judge 79 = .ok (.getfield 7, 3) := by decide +kernel
theorem dX7_judge_82 : decode cX7_judge 82 = .ok (.iload_n 3, 1) := by decide +kernel
theorem dX7_judge_83 : decode cX7_judge 83 = .ok (.iconst 2, 1) := by decide +kernel
theorem dX7_judge_84 : decode cX7_judge 84 = .ok (.iadd, 1) := by decide +kernel
theorem dX7_judge_85 : decode cX7_judge 85 = .ok (.iload_n 2, 1) := by decide +kernel
theorem dX7_judge_86 : decode cX7_judge 86 = .ok (.iastore, 1) := by decide +kernel
theorem dX7_judge_87 : decode cX7_judge 87 = .ok (.aload_n 0, 1) := by decide +kernel
theorem dX7_judge_88 : decode cX7_judge 88 = .ok (.getfield 7, 3) := by decide +kernel
theorem dX7_judge_91 : decode cX7_judge 91 = .ok (.sipush 373, 3) := by decide +kernel
theorem dX7_judge_94 : decode cX7_judge 94 = .ok (.dup2, 1) := by decide +kernel
theorem dX7_judge_95 : decode cX7_judge 95 = .ok (.iaload, 1) := by decide +kernel
theorem dX7_judge_96 : decode cX7_judge 96 = .ok (.iconst 1, 1) := by decide +kernel
theorem dX7_judge_97 : decode cX7_judge 97 = .ok (.iadd, 1) := by decide +kernel
theorem dX7_judge_98 : decode cX7_judge 98 = .ok (.iastore, 1) := by decide +kernel
theorem dX7_judge_99 : decode cX7_judge 99 = .ok (.iload_n 2, 1) := by decide +kernel
theorem dX7_judge_100 : decode cX7_judge 100 = .ok (.ireturn, 1) := by decide +kernel
theorem dX7_draw_0 : decode cX7_draw 0 = .ok (.aload_n 0, 1) := by decide +kernel
theorem dX7_draw_1 : decode cX7_draw 1 = .ok (.getfield 7, 3) := by decide +kernel
theorem dX7_draw_4 : decode cX7_draw 4 = .ok (.sipush 464, 3) := by decide +kernel
theorem dX7_draw_7 : decode cX7_draw 7 = .ok (.iaload, 1) := by decide +kernel
theorem dX7_draw_8 : decode cX7_draw 8 = .ok (.iload_n 1, 1) := by decide +kernel
theorem dX7_draw_9 : decode cX7_draw 9 = .ok (.irem, 1) := by decide +kernel
theorem dX7_draw_10 : decode cX7_draw 10 = .ok (.istore_n 2, 1) := by decide +kernel
theorem dX7_draw_11 : decode cX7_draw 11 = .ok (.aload_n 0, 1) := by decide +kernel
theorem dX7_draw_12 : decode cX7_draw 12 = .ok (.getfield 7, 3) := by decide +kernel
theorem dX7_draw_15 : decode cX7_draw 15 = .ok (.sipush 464, 3) := by decide +kernel
theorem dX7_draw_18 : decode cX7_draw 18 = .ok (.aload_n 0, 1) := by decide +kernel
theorem dX7_draw_19 : decode cX7_draw 19 = .ok (.getfield 7, 3) := by decide +kernel
theorem dX7_draw_22 : decode cX7_draw 22 = .ok (.sipush 464, 3) := by decide +kernel
theorem dX7_draw_25 : decode cX7_draw 25 = .ok (.iaload, 1) := by decide +kernel
theorem dX7_draw_26 : decode cX7_draw 26 = .ok (.sipush 181, 3) := by decide +kernel
theorem dX7_draw_29 : decode cX7_draw 29 = .ok (.imul, 1) := by decide +kernel
theorem dX7_draw_30 : decode cX7_draw 30 = .ok (.bipush 101, 2) := by decide +kernel
theorem dX7_draw_32 : decode cX7_draw 32 = .ok (.iadd, 1) := by decide +kernel
theorem dX7_draw_33 : decode cX7_draw 33 = .ok (.sipush 30029, 3) := by decide +kernel
theorem dX7_draw_36 : decode cX7_draw 36 = .ok (.irem, 1) := by decide +kernel
theorem dX7_draw_37 : decode cX7_draw 37 = .ok (.iastore, 1) := by decide +kernel
theorem dX7_draw_38 : decode cX7_draw 38 = .ok (.iload_n 2, 1) := by decide +kernel
theorem dX7_draw_39 : decode cX7_draw 39 = .ok (.ireturn, 1) := by decide +kernel
theorem dX7_flies_0 : decode cX7_flies 0 = .ok (.iload_n 1, 1) := by decide +kernel
theorem dX7_flies_1 : decode cX7_flies 1 = .ok (.iconst 1, 1) := by decide +kernel
theorem dX7_flies_2 : decode cX7_flies 2 = .ok (.bipush 40, 2) := by decide +kernel
theorem dX7_flies_4 : decode cX7_flies 4 = .ok (.invokestatic 110, 3) := by decide +kernel
theorem dX7_flies_7 : decode cX7_flies 7 = .ok (.ifCond .ne 5, 3) := by decide +kernel
theorem dX7_flies_10 : decode cX7_flies 10 = .ok (.iconst (-1), 1) := by decide +kernel
theorem dX7_flies_11 : decode cX7_flies 11 = .ok (.ireturn, 1) := by decide +kernel
theorem dX7_flies_12 : decode cX7_flies 12 = .ok (.aload_n 0, 1) := by decide +kernel
theorem dX7_flies_13 : decode cX7_flies 13 = .ok (.invokevirtual 346, 3) := by decide +kernel
theorem dX7_flies_16 : decode cX7_flies 16 = .ok (.iconst 0, 1) := by decide +kernel
theorem dX7_flies_17 : decode cX7_flies 17 = .ok (.istore_n 2, 1) := by decide +kernel
theorem dX7_flies_18 : decode cX7_flies 18 = .ok (.iconst 0, 1) := by decide +kernel
theorem dX7_flies_19 : decode cX7_flies 19 = .ok (.istore_n 3, 1) := by decide +kernel
theorem dX7_flies_20 : decode cX7_flies 20 = .ok (.iload_n 3, 1) := by decide +kernel
theorem dX7_flies_21 : decode cX7_flies 21 = .ok (.iload_n 1, 1) := by decide +kernel
theorem dX7_flies_22 : decode cX7_flies 22 = .ok (.if_icmp .ge 46, 3) := by decide +kernel
theorem dX7_flies_25 : decode cX7_flies 25 = .ok (.aload_n 0, 1) := by decide +kernel
theorem dX7_flies_26 : decode cX7_flies 26 = .ok (.iconst 4, 1) := by decide +kernel
theorem dX7_flies_27 : decode cX7_flies 27 = .ok (.invokevirtual 355, 3) := by decide +kernel
theorem dX7_flies_30 : decode cX7_flies 30 = .ok (.istore 4, 2) := by decide +kernel
theorem dX7_flies_32 : decode cX7_flies 32 = .ok (.aload_n 0, 1) := by decide +kernel
theorem dX7_flies_33 : decode cX7_flies 33 = .ok (.getfield 7, 3) := by decide +kernel
theorem dX7_flies_36 : decode cX7_flies 36 = .ok (.bipush 110, 2) := by decide +kernel
theorem dX7_flies_38 : decode cX7_flies 38 = .ok (.iload 4, 2) := by decide +kernel
theorem dX7_flies_40 : decode cX7_flies 40 = .ok (.iadd, 1) := by decide +kernel
theorem dX7_flies_41 : decode cX7_flies 41 = .ok (.iaload, 1) := by decide +kernel
theorem dX7_flies_42 : decode cX7_flies 42 = .ok (.ifCond .le 20, 3) := by decide +kernel
theorem dX7_flies_45 : decode cX7_flies 45 = .ok (.aload_n 0, 1) := by decide +kernel
theorem dX7_flies_46 : decode cX7_flies 46 = .ok (.getfield 7, 3) := by decide +kernel
theorem dX7_flies_49 : decode cX7_flies 49 = .ok (.bipush 110, 2) := by decide +kernel
theorem dX7_flies_51 : decode cX7_flies 51 = .ok (.iload 4, 2) := by decide +kernel
theorem dX7_flies_53 : decode cX7_flies 53 = .ok (.iadd, 1) := by decide +kernel
theorem dX7_flies_54 : decode cX7_flies 54 = .ok (.dup2, 1) := by decide +kernel
theorem dX7_flies_55 : decode cX7_flies 55 = .ok (.iaload, 1) := by decide +kernel
theorem dX7_flies_56 : decode cX7_flies 56 = .ok (.iconst 1, 1) := by decide +kernel
theorem dX7_flies_57 : decode cX7_flies 57 = .ok (.isub, 1) := by decide +kernel
theorem dX7_flies_58 : decode cX7_flies 58 = .ok (.iastore, 1) := by decide +kernel
theorem dX7_flies_59 : decode cX7_flies 59 = .ok (.iinc 2 1, 3) := by decide +kernel
theorem dX7_flies_62 : decode cX7_flies 62 = .ok (.iinc 3 1, 3) := by decide +kernel
theorem dX7_flies_65 : decode cX7_flies 65 = .ok (.goto (-45), 3) := by decide +kernel
theorem dX7_flies_68 : decode cX7_flies 68 = .ok (.iload_n 2, 1) := by decide +kernel
theorem dX7_flies_69 : decode cX7_flies 69 = .ok (.ireturn, 1) := by decide +kernel
theorem dX7_played_0 : decode cX7_played 0 = .ok (.iload_n 1, 1) := by decide +kernel
theorem dX7_played_1 : decode cX7_played 1 = .ok (.iconst 0, 1) := by decide +kernel
theorem dX7_played_2 : decode cX7_played 2 = .ok (.aload_n 0, 1) := by decide +kernel
theorem dX7_played_3 : decode cX7_played 3 = .ok (.getfield 7, 3) := by decide +kernel
theorem dX7_played_6 : decode cX7_played 6 = .ok (.iconst 1, 1) := by decide +kernel
theorem dX7_played_7 : decode cX7_played 7 = .ok (.iaload, 1) := by decide +kernel
theorem dX7_played_8 : decode cX7_played 8 = .ok (.iconst 1, 1) := by decide +kernel
theorem dX7_played_9 : decode cX7_played 9 = .ok (.isub, 1) := by decide +kernel
theorem dX7_played_10 : decode cX7_played 10 = .ok (.invokestatic 110, 3) := by decide +kernel
theorem dX7_played_13 : decode cX7_played 13 = .ok (.ifCond .ne 6, 3) := by decide +kernel
theorem dX7_played_16 : decode cX7_played 16 = .ok (.bipush (-2), 2) := by decide +kernel
theorem dX7_played_18 : decode cX7_played 18 = .ok (.ireturn, 1) := by decide +kernel
theorem dX7_played_19 : decode cX7_played 19 = .ok (.iconst 0, 1) := by decide +kernel
theorem dX7_played_20 : decode cX7_played 20 = .ok (.istore_n 2, 1) := by decide +kernel
theorem dX7_played_21 : decode cX7_played 21 = .ok (.iload_n 2, 1) := by decide +kernel
theorem dX7_played_22 : decode cX7_played 22 = .ok (.aload_n 0, 1) := by decide +kernel
theorem dX7_played_23 : decode cX7_played 23 = .ok (.getfield 27, 3) := by decide +kernel
theorem dX7_played_26 : decode cX7_played 26 = .ok (.iload_n 1, 1) := by decide +kernel
theorem dX7_played_27 : decode cX7_played 27 = .ok (.iaload, 1) := by decide +kernel
theorem dX7_played_28 : decode cX7_played 28 = .ok (.if_icmp .ge 160, 3) := by decide +kernel
theorem dX7_played_31 : decode cX7_played 31 = .ok (.bipush 24, 2) := by decide +kernel
theorem dX7_played_33 : decode cX7_played 33 = .ok (.iload_n 1, 1) := by decide +kernel
theorem dX7_played_34 : decode cX7_played 34 = .ok (.imul, 1) := by decide +kernel
theorem dX7_played_35 : decode cX7_played 35 = .ok (.iload_n 2, 1) := by decide +kernel
theorem dX7_played_36 : decode cX7_played 36 = .ok (.iadd, 1) := by decide +kernel
theorem dX7_played_37 : decode cX7_played 37 = .ok (.istore_n 3, 1) := by decide +kernel
theorem dX7_played_38 : decode cX7_played 38 = .ok (.iconst 1, 1) := by decide +kernel
theorem dX7_played_39 : decode cX7_played 39 = .ok (.istore 4, 2) := by decide +kernel
theorem dX7_played_41 : decode cX7_played 41 = .ok (.aload_n 0, 1) := by decide +kernel
theorem dX7_played_42 : decode cX7_played 42 = .ok (.getfield 30, 3) := by decide +kernel
theorem dX7_played_45 : decode cX7_played 45 = .ok (.iload_n 3, 1) := by decide +kernel
theorem dX7_played_46 : decode cX7_played 46 = .ok (.iaload, 1) := by decide +kernel
theorem dX7_played_47 : decode cX7_played 47 = .ok (.tableswitch 128 3 6 #[29, 50, 80, 104], 29) := by decide +kernel
theorem dX7_played_76 : decode cX7_played 76 = .ok (.aload_n 0, 1) := by decide +kernel
theorem dX7_played_77 : decode cX7_played 77 = .ok (.aload_n 0, 1) := by decide +kernel
theorem dX7_played_78 : decode cX7_played 78 = .ok (.getfield 36, 3) := by decide +kernel
theorem dX7_played_81 : decode cX7_played 81 = .ok (.iload_n 3, 1) := by decide +kernel
theorem dX7_played_82 : decode cX7_played 82 = .ok (.iaload, 1) := by decide +kernel
theorem dX7_played_83 : decode cX7_played 83 = .ok (.aload_n 0, 1) := by decide +kernel
theorem dX7_played_84 : decode cX7_played 84 = .ok (.getfield 39, 3) := by decide +kernel
theorem dX7_played_87 : decode cX7_played 87 = .ok (.iload_n 3, 1) := by decide +kernel
theorem dX7_played_88 : decode cX7_played 88 = .ok (.iaload, 1) := by decide +kernel
theorem dX7_played_89 : decode cX7_played 89 = .ok (.invokevirtual 358, 3) := by decide +kernel
theorem dX7_played_92 : decode cX7_played 92 = .ok (.istore 4, 2) := by decide +kernel
theorem dX7_played_94 : decode cX7_played 94 = .ok (.goto 81, 3) := by decide +kernel
theorem dX7_played_97 : decode cX7_played 97 = .ok (.aload_n 0, 1) := by decide +kernel
theorem dX7_played_98 : decode cX7_played 98 = .ok (.aload_n 0, 1) := by decide +kernel
theorem dX7_played_99 : decode cX7_played 99 = .ok (.getfield 36, 3) := by decide +kernel
theorem dX7_played_102 : decode cX7_played 102 = .ok (.iload_n 3, 1) := by decide +kernel
theorem dX7_played_103 : decode cX7_played 103 = .ok (.iaload, 1) := by decide +kernel
theorem dX7_played_104 : decode cX7_played 104 = .ok (.aload_n 0, 1) := by decide +kernel
theorem dX7_played_105 : decode cX7_played 105 = .ok (.getfield 39, 3) := by decide +kernel
theorem dX7_played_108 : decode cX7_played 108 = .ok (.iload_n 3, 1) := by decide +kernel
theorem dX7_played_109 : decode cX7_played 109 = .ok (.iaload, 1) := by decide +kernel
theorem dX7_played_110 : decode cX7_played 110 = .ok (.invokevirtual 361, 3) := by decide +kernel
theorem dX7_played_113 : decode cX7_played 113 = .ok (.iconst (-1), 1) := by decide +kernel
theorem dX7_played_114 : decode cX7_played 114 = .ok (.if_icmp .eq 7, 3) := by decide +kernel
theorem dX7_played_117 : decode cX7_played 117 = .ok (.iconst 1, 1) := by decide +kernel
theorem dX7_played_118 : decode cX7_played 118 = .ok (.goto 4, 3) := by decide +kernel
theorem dX7_played_121 : decode cX7_played 121 = .ok (.iconst 0, 1) := by decide +kernel
theorem dX7_played_122 : decode cX7_played 122 = .ok (.istore 4, 2) := by decide +kernel
theorem dX7_played_124 : decode cX7_played 124 = .ok (.goto 51, 3) := by decide +kernel
theorem dX7_played_127 : decode cX7_played 127 = .ok (.aload_n 0, 1) := by decide +kernel
theorem dX7_played_128 : decode cX7_played 128 = .ok (.aload_n 0, 1) := by decide +kernel
theorem dX7_played_129 : decode cX7_played 129 = .ok (.getfield 36, 3) := by decide +kernel
theorem dX7_played_132 : decode cX7_played 132 = .ok (.iload_n 3, 1) := by decide +kernel
theorem dX7_played_133 : decode cX7_played 133 = .ok (.iaload, 1) := by decide +kernel
theorem dX7_played_134 : decode cX7_played 134 = .ok (.invokevirtual 364, 3) := by decide +kernel
theorem dX7_played_137 : decode cX7_played 137 = .ok (.iconst (-1), 1) := by decide +kernel
theorem dX7_played_138 : decode cX7_played 138 = .ok (.if_icmp .eq 7, 3) := by decide +kernel
theorem dX7_played_141 : decode cX7_played 141 = .ok (.iconst 1, 1) := by decide +kernel
theorem dX7_played_142 : decode cX7_played 142 = .ok (.goto 4, 3) := by decide +kernel
theorem dX7_played_145 : decode cX7_played 145 = .ok (.iconst 0, 1) := by decide +kernel
theorem dX7_played_146 : decode cX7_played 146 = .ok (.istore 4, 2) := by decide +kernel
theorem dX7_played_148 : decode cX7_played 148 = .ok (.goto 27, 3) := by decide +kernel
theorem dX7_played_151 : decode cX7_played 151 = .ok (.aload_n 0, 1) := by decide +kernel
theorem dX7_played_152 : decode cX7_played 152 = .ok (.aload_n 0, 1) := by decide +kernel
theorem dX7_played_153 : decode cX7_played 153 = .ok (.getfield 36, 3) := by decide +kernel
theorem dX7_played_156 : decode cX7_played 156 = .ok (.iload_n 3, 1) := by decide +kernel
theorem dX7_played_157 : decode cX7_played 157 = .ok (.iaload, 1) := by decide +kernel
theorem dX7_played_158 : decode cX7_played 158 = .ok (.invokevirtual 367, 3) := by decide +kernel
theorem dX7_played_161 : decode cX7_played 161 = .ok (.iconst (-1), 1) := by decide +kernel
theorem dX7_played_162 : decode cX7_played 162 = .ok (.if_icmp .eq 7, 3) := by decide +kernel
theorem dX7_played_165 : decode cX7_played 165 = .ok (.iconst 1, 1) := by decide +kernel
theorem dX7_played_166 : decode cX7_played 166 = .ok (.goto 4, 3) := by decide +kernel
theorem dX7_played_169 : decode cX7_played 169 = .ok (.iconst 0, 1) := by decide +kernel
theorem dX7_played_170 : decode cX7_played 170 = .ok (.istore 4, 2) := by decide +kernel
theorem dX7_played_172 : decode cX7_played 172 = .ok (.goto 3, 3) := by decide +kernel
theorem dX7_played_175 : decode cX7_played 175 = .ok (.iload 4, 2) := by decide +kernel
theorem dX7_played_177 : decode cX7_played 177 = .ok (.ifCond .ne 5, 3) := by decide +kernel
theorem dX7_played_180 : decode cX7_played 180 = .ok (.iload_n 2, 1) := by decide +kernel
theorem dX7_played_181 : decode cX7_played 181 = .ok (.ireturn, 1) := by decide +kernel
theorem dX7_played_182 : decode cX7_played 182 = .ok (.iinc 2 1, 3) := by decide +kernel
theorem dX7_played_185 : decode cX7_played 185 = .ok (.goto (-164), 3) := by decide +kernel
theorem dX7_played_188 : decode cX7_played 188 = .ok (.iconst (-1), 1) := by decide +kernel
theorem dX7_played_189 : decode cX7_played 189 = .ok (.ireturn, 1) := by decide +kernel
theorem dX7_of_0 : decode cX7_of 0 = .ok (.aload_n 0, 1) := by decide +kernel
theorem dX7_of_1 : decode cX7_of 1 = .ok (.iload_n 1, 1) := by decide +kernel
theorem dX7_of_2 : decode cX7_of 2 = .ok (.invokevirtual 343, 3) := by decide +kernel
theorem dX7_of_5 : decode cX7_of 5 = .ok (.ifCond .ne 6, 3) := by decide +kernel
theorem dX7_of_8 : decode cX7_of 8 = .ok (.bipush (-2), 2) := by decide +kernel
theorem dX7_of_10 : decode cX7_of 10 = .ok (.ireturn, 1) := by decide +kernel
theorem dX7_of_11 : decode cX7_of 11 = .ok (.aload_n 0, 1) := by decide +kernel
theorem dX7_of_12 : decode cX7_of 12 = .ok (.invokevirtual 349, 3) := by decide +kernel
theorem dX7_of_15 : decode cX7_of 15 = .ok (.iload_n 2, 1) := by decide +kernel
theorem dX7_of_16 : decode cX7_of 16 = .ok (.tableswitch 128 0 7 #[48, 60, 74, 88, 98, 108, 114, 121], 48) := by decide +kernel
theorem dX7_of_64 : decode cX7_of 64 = .ok (.aload_n 0, 1) := by decide +kernel
theorem dX7_of_65 : decode cX7_of 65 = .ok (.getfield 7, 3) := by decide +kernel
theorem dX7_of_68 : decode cX7_of 68 = .ok (.bipush 10, 2) := by decide +kernel
theorem dX7_of_70 : decode cX7_of 70 = .ok (.iconst 3, 1) := by decide +kernel
theorem dX7_of_71 : decode cX7_of 71 = .ok (.iload_n 1, 1) := by decide +kernel
theorem dX7_of_72 : decode cX7_of 72 = .ok (.imul, 1) := by decide +kernel
theorem dX7_of_73 : decode cX7_of 73 = .ok (.iadd, 1) := by decide +kernel
theorem dX7_of_74 : decode cX7_of 74 = .ok (.iaload, 1) := by decide +kernel
theorem dX7_of_75 : decode cX7_of 75 = .ok (.ireturn, 1) := by decide +kernel
theorem dX7_of_76 : decode cX7_of 76 = .ok (.aload_n 0, 1) := by decide +kernel
theorem dX7_of_77 : decode cX7_of 77 = .ok (.getfield 7, 3) := by decide +kernel
theorem dX7_of_80 : decode cX7_of 80 = .ok (.bipush 10, 2) := by decide +kernel
theorem dX7_of_82 : decode cX7_of 82 = .ok (.iconst 3, 1) := by decide +kernel
theorem dX7_of_83 : decode cX7_of 83 = .ok (.iload_n 1, 1) := by decide +kernel
theorem dX7_of_84 : decode cX7_of 84 = .ok (.imul, 1) := by decide +kernel
theorem dX7_of_85 : decode cX7_of 85 = .ok (.iadd, 1) := by decide +kernel
theorem dX7_of_86 : decode cX7_of 86 = .ok (.iconst 1, 1) := by decide +kernel
theorem dX7_of_87 : decode cX7_of 87 = .ok (.iadd, 1) := by decide +kernel
theorem dX7_of_88 : decode cX7_of 88 = .ok (.iaload, 1) := by decide +kernel
theorem dX7_of_89 : decode cX7_of 89 = .ok (.ireturn, 1) := by decide +kernel
theorem dX7_of_90 : decode cX7_of 90 = .ok (.aload_n 0, 1) := by decide +kernel
theorem dX7_of_91 : decode cX7_of 91 = .ok (.getfield 7, 3) := by decide +kernel
theorem dX7_of_94 : decode cX7_of 94 = .ok (.bipush 10, 2) := by decide +kernel
theorem dX7_of_96 : decode cX7_of 96 = .ok (.iconst 3, 1) := by decide +kernel
theorem dX7_of_97 : decode cX7_of 97 = .ok (.iload_n 1, 1) := by decide +kernel
theorem dX7_of_98 : decode cX7_of 98 = .ok (.imul, 1) := by decide +kernel
theorem dX7_of_99 : decode cX7_of 99 = .ok (.iadd, 1) := by decide +kernel
theorem dX7_of_100 : decode cX7_of 100 = .ok (.iconst 2, 1) := by decide +kernel
theorem dX7_of_101 : decode cX7_of 101 = .ok (.iadd, 1) := by decide +kernel
theorem dX7_of_102 : decode cX7_of 102 = .ok (.iaload, 1) := by decide +kernel
theorem dX7_of_103 : decode cX7_of 103 = .ok (.ireturn, 1) := by decide +kernel
theorem dX7_of_104 : decode cX7_of 104 = .ok (.aload_n 0, 1) := by decide +kernel
theorem dX7_of_105 : decode cX7_of 105 = .ok (.getfield 7, 3) := by decide +kernel
theorem dX7_of_108 : decode cX7_of 108 = .ok (.bipush 114, 2) := by decide +kernel
theorem dX7_of_110 : decode cX7_of 110 = .ok (.iload_n 1, 1) := by decide +kernel
theorem dX7_of_111 : decode cX7_of 111 = .ok (.iadd, 1) := by decide +kernel
theorem dX7_of_112 : decode cX7_of 112 = .ok (.iaload, 1) := by decide +kernel
theorem dX7_of_113 : decode cX7_of 113 = .ok (.ireturn, 1) := by decide +kernel
theorem dX7_of_114 : decode cX7_of 114 = .ok (.aload_n 0, 1) := by decide +kernel
theorem dX7_of_115 : decode cX7_of 115 = .ok (.getfield 7, 3) := by decide +kernel
theorem dX7_of_118 : decode cX7_of 118 = .ok (.bipush 123, 2) := by decide +kernel
theorem dX7_of_120 : decode cX7_of 120 = .ok (.iload_n 1, 1) := by decide +kernel
theorem dX7_of_121 : decode cX7_of 121 = .ok (.iadd, 1) := by decide +kernel
theorem dX7_of_122 : decode cX7_of 122 = .ok (.iaload, 1) := by decide +kernel
theorem dX7_of_123 : decode cX7_of 123 = .ok (.ireturn, 1) := by decide +kernel
theorem dX7_of_124 : decode cX7_of 124 = .ok (.aload_n 0, 1) := by decide +kernel
theorem dX7_of_125 : decode cX7_of 125 = .ok (.iload_n 1, 1) := by decide +kernel
theorem dX7_of_126 : decode cX7_of 126 = .ok (.invokevirtual 331, 3) := by decide +kernel
theorem dX7_of_129 : decode cX7_of 129 = .ok (.ireturn, 1) := by decide +kernel
theorem dX7_of_130 : decode cX7_of 130 = .ok (.aload_n 0, 1) := by decide +kernel
theorem dX7_of_131 : decode cX7_of 131 = .ok (.iload_n 1, 1) := by decide +kernel
theorem dX7_of_132 : decode cX7_of 132 = .ok (.iconst 0, 1) := by decide +kernel
theorem dX7_of_133 : decode cX7_of 133 = .ok (.invokevirtual 337, 3) := by decide +kernel
theorem dX7_of_136 : decode cX7_of 136 = .ok (.ireturn, 1) := by decide +kernel
theorem dX7_of_137 : decode cX7_of 137 = .ok (.aload_n 0, 1) := by decide +kernel
theorem dX7_of_138 : decode cX7_of 138 = .ok (.iload_n 1, 1) := by decide +kernel
theorem dX7_of_139 : decode cX7_of 139 = .ok (.iconst 1, 1) := by decide +kernel
theorem dX7_of_140 : decode cX7_of 140 = .ok (.invokevirtual 337, 3) := by decide +kernel
theorem dX7_of_143 : decode cX7_of 143 = .ok (.ireturn, 1) := by decide +kernel
theorem dX7_of_144 : decode cX7_of 144 = .ok (.bipush (-2), 2) := by decide +kernel
theorem dX7_of_146 : decode cX7_of 146 = .ok (.ireturn, 1) := by decide +kernel
