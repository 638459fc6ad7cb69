theorem dX6_init_0 : decode mX6_init.2.1 0 = .ok (.aload_n 0, 1) := by decide +kernel
theorem dX6_init_1 : decode mX6_init.2.1 1 = .ok (.invokespecial 1, 3) := by decide +kernel
theorem dX6_init_4 : decode mX6_init.2.1 4 = .ok (.aload_n 0, 1) := by decide +kernel
theorem dX6_init_5 : decode mX6_init.2.1 5 = .ok (.bipush 10, 2) := by decide +kernel
theorem dX6_init_7 : decode mX6_init.2.1 7 = .ok (.newarray .int, 2) := by decide +kernel
theorem dX6_init_9 : decode mX6_init.2.1 9 = .ok (.putfield 7, 3) := by decide +kernel
theorem dX6_init_12 : decode mX6_init.2.1 12 = .ok (.aload_n 0, 1) := by decide +kernel
theorem dX6_init_13 : decode mX6_init.2.1 13 = .ok (.bipush 10, 2) := by decide +kernel
theorem dX6_init_15 : decode mX6_init.2.1 15 = .ok (.newarray .int, 2) := by decide +kernel
theorem dX6_init_17 : decode mX6_init.2.1 17 = .ok (.putfield 13, 3) := by decide +kernel
theorem dX6_init_20 : decode mX6_init.2.1 20 = .ok (.aload_n 0, 1) := by decide +kernel
theorem dX6_init_21 : decode mX6_init.2.1 21 = .ok (.bipush 60, 2) := by decide +kernel
theorem dX6_init_23 : decode mX6_init.2.1 23 = .ok (.newarray .int, 2) := by decide +kernel
theorem dX6_init_25 : decode mX6_init.2.1 25 = .ok (.putfield 16, 3) := by decide +kernel
theorem dX6_init_28 : decode mX6_init.2.1 28 = .ok (.aload_n 0, 1) := by decide +kernel
theorem dX6_init_29 : decode mX6_init.2.1 29 = .ok (.bipush 60, 2) := by decide +kernel
theorem dX6_init_31 : decode mX6_init.2.1 31 = .ok (.newarray .int, 2) := by decide +kernel
theorem dX6_init_33 : decode mX6_init.2.1 33 = .ok (.putfield 19, 3) := by decide +kernel
theorem dX6_init_36 : decode mX6_init.2.1 36 = .ok (.aload_n 0, 1) := by decide +kernel
theorem dX6_init_37 : decode mX6_init.2.1 37 = .ok (.bipush 60, 2) := by decide +kernel
theorem dX6_init_39 : decode mX6_init.2.1 39 = .ok (.newarray .boolean, 2) := by decide +kernel
theorem dX6_init_41 : decode mX6_init.2.1 41 = .ok (.putfield 22, 3) := by decide +kernel
theorem dX6_init_44 : decode mX6_init.2.1 44 = .ok (.aload_n 0, 1) := by decide +kernel
theorem dX6_init_45 : decode mX6_init.2.1 45 = .ok (.bipush 50, 2) := by decide +kernel
theorem dX6_init_47 : decode mX6_init.2.1 47 = .ok (.newarray .int, 2) := by decide +kernel
theorem dX6_init_49 : decode mX6_init.2.1 49 = .ok (.putfield 26, 3) := by decide +kernel
theorem dX6_init_52 : decode mX6_init.2.1 52 = .ok (.aload_n 0, 1) := by decide +kernel
theorem dX6_init_53 : decode mX6_init.2.1 53 = .ok (.bipush 50, 2) := by decide +kernel
theorem dX6_init_55 : decode mX6_init.2.1 55 = .ok (.newarray .int, 2) := by decide +kernel
theorem dX6_init_57 : decode mX6_init.2.1 57 = .ok (.putfield 29, 3) := by decide +kernel
theorem dX6_init_60 : decode mX6_init.2.1 60 = .ok (.aload_n 0, 1) := by decide +kernel
theorem dX6_init_61 : decode mX6_init.2.1 61 = .ok (.bipush 50, 2) := by decide +kernel
theorem dX6_init_63 : decode mX6_init.2.1 63 = .ok (.newarray .int, 2) := by decide +kernel
theorem dX6_init_65 : decode mX6_init.2.1 65 = .ok (.putfield 32, 3) := by decide +kernel
theorem dX6_init_68 : decode mX6_init.2.1 68 = .ok (.aload_n 0, 1) := by decide +kernel
theorem dX6_init_69 : decode mX6_init.2.1 69 = .ok (.bipush 10, 2) := by decide +kernel
theorem dX6_init_71 : decode mX6_init.2.1 71 = .ok (.newarray .int, 2) := by decide +kernel
theorem dX6_init_73 : decode mX6_init.2.1 73 = .ok (.putfield 35, 3) := by decide +kernel
theorem dX6_init_76 : decode mX6_init.2.1 76 = .ok (.aload_n 0, 1) := by decide +kernel
theorem dX6_init_77 : decode mX6_init.2.1 77 = .ok (.bipush 10, 2) := by decide +kernel
theorem dX6_init_79 : decode mX6_init.2.1 79 = .ok (.newarray .int, 2) := by decide +kernel
theorem dX6_init_81 : decode mX6_init.2.1 81 = .ok (.putfield 38, 3) := by decide +kernel
theorem dX6_init_84 : decode mX6_init.2.1 84 = .ok (.aload_n 0, 1) := by decide +kernel
theorem dX6_init_85 : decode mX6_init.2.1 85 = .ok (.bipush 10, 2) := by decide +kernel
theorem dX6_init_87 : decode mX6_init.2.1 87 = .ok (.newarray .int, 2) := by decide +kernel
theorem dX6_init_89 : decode mX6_init.2.1 89 = .ok (.putfield 41, 3) := by decide +kernel
theorem dX6_init_92 : decode mX6_init.2.1 92 = .ok (.aload_n 0, 1) := by decide +kernel
theorem dX6_init_93 : decode mX6_init.2.1 93 = .ok (.bipush 50, 2) := by decide +kernel
theorem dX6_init_95 : decode mX6_init.2.1 95 = .ok (.newarray .int, 2) := by decide +kernel
theorem dX6_init_97 : decode mX6_init.2.1 97 = .ok (.putfield 44, 3) := by decide +kernel
theorem dX6_init_100 : decode mX6_init.2.1 100 = .ok (.aload_n 0, 1) := by decide +kernel
theorem dX6_init_101 : decode mX6_init.2.1 101 = .ok (.bipush 50, 2) := by decide +kernel
theorem dX6_init_103 : decode mX6_init.2.1 103 = .ok (.newarray .int, 2) := by decide +kernel
theorem dX6_init_105 : decode mX6_init.2.1 105 = .ok (.putfield 47, 3) := by decide +kernel
theorem dX6_init_108 : decode mX6_init.2.1 108 = .ok (.aload_n 0, 1) := by decide +kernel
theorem dX6_init_109 : decode mX6_init.2.1 109 = .ok (.bipush 7, 2) := by decide +kernel
theorem dX6_init_111 : decode mX6_init.2.1 111 = .ok (.newarray .int, 2) := by decide +kernel
theorem dX6_init_113 : decode mX6_init.2.1 113 = .ok (.putfield 50, 3) := by decide +kernel
theorem dX6_init_116 : decode mX6_init.2.1 116 = .ok (.aload_n 0, 1) := by decide +kernel
theorem dX6_init_117 : decode mX6_init.2.1 117 = .ok (.bipush 7, 2) := by decide +kernel
theorem dX6_init_119 : decode mX6_init.2.1 119 = .ok (.newarray .int, 2) := by decide +kernel
theorem dX6_init_121 : decode mX6_init.2.1 121 = .ok (.putfield 53, 3) := by decide +kernel
theorem dX6_init_124 : decode mX6_init.2.1 124 = .ok (.aload_n 0, 1) := by decide +kernel
theorem dX6_init_125 : decode mX6_init.2.1 125 = .ok (.bipush 50, 2) := by decide +kernel
theorem dX6_init_127 : decode mX6_init.2.1 127 = .ok (.newarray .int, 2) := by decide +kernel
theorem dX6_init_129 : decode mX6_init.2.1 129 = .ok (.putfield 56, 3) := by decide +kernel
theorem dX6_init_132 : decode mX6_init.2.1 132 = .ok (.aload_n 0, 1) := by decide +kernel
theorem dX6_init_133 : decode mX6_init.2.1 133 = .ok (.bipush 10, 2) := by decide +kernel
theorem dX6_init_135 : decode mX6_init.2.1 135 = .ok (.newarray .int, 2) := by decide +kernel
theorem dX6_init_137 : decode mX6_init.2.1 137 = .ok (.putfield 59, 3) := by decide +kernel
theorem dX6_init_140 : decode mX6_init.2.1 140 = .ok (.aload_n 0, 1) := by decide +kernel
theorem dX6_init_141 : decode mX6_init.2.1 141 = .ok (.bipush 7, 2) := by decide +kernel
theorem dX6_init_143 : decode mX6_init.2.1 143 = .ok (.newarray .int, 2) := by decide +kernel
theorem dX6_init_145 : decode mX6_init.2.1 145 = .ok (.putfield 62, 3) := by decide +kernel
theorem dX6_init_148 : decode mX6_init.2.1 148 = .ok (.aload_n 0, 1) := by decide +kernel
theorem dX6_init_149 : decode mX6_init.2.1 149 = .ok (.bipush 7, 2) := by decide +kernel
theorem dX6_init_151 : decode mX6_init.2.1 151 = .ok (.newarray .int, 2) := by decide +kernel
theorem dX6_init_153 : decode mX6_init.2.1 153 = .ok (.putfield 65, 3) := by decide +kernel
theorem dX6_init_156 : decode mX6_init.2.1 156 = .ok (.aload_n 0, 1) := by decide +kernel
theorem dX6_init_157 : decode mX6_init.2.1 157 = .ok (.iconst 5, 1) := by decide +kernel
theorem dX6_init_158 : decode mX6_init.2.1 158 = .ok (.newarray .int, 2) := by decide +kernel
theorem dX6_init_160 : decode mX6_init.2.1 160 = .ok (.putfield 68, 3) := by decide +kernel
theorem dX6_init_163 : decode mX6_init.2.1 163 = .ok (.aload_n 0, 1) := by decide +kernel
theorem dX6_init_164 : decode mX6_init.2.1 164 = .ok (.bipush 27, 2) := by decide +kernel
theorem dX6_init_166 : decode mX6_init.2.1 166 = .ok (.newarray .int, 2) := by decide +kernel
theorem dX6_init_168 : decode mX6_init.2.1 168 = .ok (.putfield 71, 3) := by decide +kernel
theorem dX6_init_171 : decode mX6_init.2.1 171 = .ok (.aload_n 0, 1) := by decide +kernel
theorem dX6_init_172 : decode mX6_init.2.1 172 = .ok (.bipush 40, 2) := by decide +kernel
theorem dX6_init_174 : decode mX6_init.2.1 174 = .ok (.newarray .int, 2) := by decide +kernel
theorem dX6_init_176 : decode mX6_init.2.1 176 = .ok (.putfield 74, 3) := by decide +kernel
theorem dX6_init_179 : decode mX6_init.2.1 179 = .ok (.aload_n 0, 1) := by decide +kernel
theorem dX6_init_180 : decode mX6_init.2.1 180 = .ok (.bipush 20, 2) := by decide +kernel
theorem dX6_init_182 : decode mX6_init.2.1 182 = .ok (.newarray .int, 2) := by decide +kernel
theorem dX6_init_184 : decode mX6_init.2.1 184 = .ok (.putfield 77, 3) := by decide +kernel
theorem dX6_init_187 : decode mX6_init.2.1 187 = .ok (.aload_n 0, 1) := by decide +kernel
theorem dX6_init_188 : decode mX6_init.2.1 188 = .ok (.sipush 147, 3) := by decide +kernel
theorem dX6_init_191 : decode mX6_init.2.1 191 = .ok (.newarray .int, 2) := by decide +kernel
theorem dX6_init_193 : decode mX6_init.2.1 193 = .ok (.putfield 80, 3) := by decide +kernel
theorem dX6_init_196 : decode mX6_init.2.1 196 = .ok (.aload_n 0, 1) := by decide +kernel
theorem dX6_init_197 : decode mX6_init.2.1 197 = .ok (.bipush 6, 2) := by decide +kernel
theorem dX6_init_199 : decode mX6_init.2.1 199 = .ok (.newarray .int, 2) := by decide +kernel
theorem dX6_init_201 : decode mX6_init.2.1 201 = .ok (.putfield 83, 3) := by decide +kernel
theorem dX6_init_204 : decode mX6_init.2.1 204 = .ok (.aload_n 0, 1) := by decide +kernel
theorem dX6_init_205 : decode mX6_init.2.1 205 = .ok (.bipush 27, 2) := by decide +kernel
theorem dX6_init_207 : decode mX6_init.2.1 207 = .ok (.newarray .int, 2) := by decide +kernel
theorem dX6_init_209 : decode mX6_init.2.1 209 = .ok (.putfield 86, 3) := by decide +kernel
theorem dX6_init_212 : decode mX6_init.2.1 212 = .ok (.aload_n 0, 1) := by decide +kernel
theorem dX6_init_213 : decode mX6_init.2.1 213 = .ok (.bipush 100, 2) := by decide +kernel
theorem dX6_init_215 : decode mX6_init.2.1 215 = .ok (.putfield 89, 3) := by decide +kernel
theorem dX6_init_218 : decode mX6_init.2.1 218 = .ok (.aload_n 0, 1) := by decide +kernel
theorem dX6_init_219 : decode mX6_init.2.1 219 = .ok (.bipush 6, 2) := by decide +kernel
theorem dX6_init_221 : decode mX6_init.2.1 221 = .ok (.newarray .int, 2) := by decide +kernel
theorem dX6_init_223 : decode mX6_init.2.1 223 = .ok (.putfield 93, 3) := by decide +kernel
theorem dX6_init_226 : decode mX6_init.2.1 226 = .ok (.aload_n 0, 1) := by decide +kernel
theorem dX6_init_227 : decode mX6_init.2.1 227 = .ok (.bipush 6, 2) := by decide +kernel
theorem dX6_init_229 : decode mX6_init.2.1 229 = .ok (.newarray .int, 2) := by decide +kernel
theorem dX6_init_231 : decode mX6_init.2.1 231 = .ok (.putfield 96, 3) := by decide +kernel
theorem dX6_init_234 : decode mX6_init.2.1 234 = .ok (.aload_n 0, 1) := by decide +kernel
theorem dX6_init_235 : decode mX6_init.2.1 235 = .ok (.bipush 6, 2) := by decide +kernel
theorem dX6_init_237 : decode mX6_init.2.1 237 = .ok (.newarray .int, 2) := by decide +kernel
theorem dX6_init_239 : decode mX6_init.2.1 239 = .ok (.putfield 99, 3) := by decide +kernel
theorem dX6_init_242 : decode mX6_init.2.1 242 = .ok (.aload_n 0, 1) := by decide +kernel
theorem dX6_init_243 : decode mX6_init.2.1 243 = .ok (.sipush 864, 3) := by decide +kernel
theorem dX6_init_246 : decode mX6_init.2.1 246 = .ok (.newarray .int, 2) := by decide +kernel
theorem dX6_init_248 : decode mX6_init.2.1 248 = .ok (.putfield 102, 3) := by decide +kernel
theorem dX6_init_251 : decode mX6_init.2.1 251 = .ok (.aload_n 0, 1) := by decide +kernel
theorem dX6_init_252 : decode mX6_init.2.1 252 = .ok (.bipush 6, 2) := by decide +kernel
theorem dX6_init_254 : decode mX6_init.2.1 254 = .ok (.newarray .int, 2) := by decide +kernel
theorem dX6_init_256 : decode mX6_init.2.1 256 = .ok (.putfield 105, 3) := by decide +kernel
theorem dX6_init_259 : decode mX6_init.2.1 259 = .ok (.aload_n 0, 1) := by decide +kernel
theorem dX6_init_260 : decode mX6_init.2.1 260 = .ok (.sipush 864, 3) := by decide +kernel
theorem dX6_init_263 : decode mX6_init.2.1 263 = .ok (.newarray .int, 2) := by decide +kernel
theorem dX6_init_265 : decode mX6_init.2.1 265 = .ok (.putfield 108, 3) := by decide +kernel
theorem dX6_init_268 : decode mX6_init.2.1 268 = .ok (.aload_n 0, 1) := by decide +kernel
theorem dX6_init_269 : decode mX6_init.2.1 269 = .ok (.bipush 6, 2) := by decide +kernel
theorem dX6_init_271 : decode mX6_init.2.1 271 = .ok (.newarray .int, 2) := by decide +kernel
theorem dX6_init_273 : decode mX6_init.2.1 273 = .ok (.putfield 111, 3) := by decide +kernel
theorem dX6_init_276 : decode mX6_init.2.1 276 = .ok (.aload_n 0, 1) := by decide +kernel
theorem dX6_init_277 : decode mX6_init.2.1 277 = .ok (.bipush 30, 2) := by decide +kernel
theorem dX6_init_279 : decode mX6_init.2.1 279 = .ok (.newarray .int, 2) := by decide +kernel
theorem dX6_init_281 : decode mX6_init.2.1 281 = .ok (.putfield 114, 3) := by decide +kernel
theorem dX6_init_284 : decode mX6_init.2.1 284 = .ok (.aload_n 0, 1) := by decide +kernel
theorem dX6_init_285 : decode mX6_init.2.1 285 = .ok (.bipush 30, 2) := by decide +kernel
theorem dX6_init_287 : decode mX6_init.2.1 287 = .ok (.newarray .int, 2) := by decide +kernel
theorem dX6_init_289 : decode mX6_init.2.1 289 = .ok (.putfield 117, 3) := by decide +kernel
theorem dX6_init_292 : decode mX6_init.2.1 292 = .ok (.aload_n 0, 1) := by decide +kernel
theorem dX6_init_293 : decode mX6_init.2.1 293 = .ok (.bipush 30, 2) := by decide +kernel
theorem dX6_init_295 : decode mX6_init.2.1 295 = .ok (.newarray .int, 2) := by decide +kernel
theorem dX6_init_297 : decode mX6_init.2.1 297 = .ok (.putfield 120, 3) := by decide +kernel
theorem dX6_init_300 : decode mX6_init.2.1 300 = .ok (.aload_n 0, 1) := by decide +kernel
theorem dX6_init_301 : decode mX6_init.2.1 301 = .ok (.bipush 30, 2) := by decide +kernel
theorem dX6_init_303 : decode mX6_init.2.1 303 = .ok (.newarray .int, 2) := by decide +kernel
theorem dX6_init_305 : decode mX6_init.2.1 305 = .ok (.putfield 123, 3) := by decide +kernel
theorem dX6_init_308 : decode mX6_init.2.1 308 = .ok (.aload_n 0, 1) := by decide +kernel
theorem dX6_init_309 : decode mX6_init.2.1 309 = .ok (.getfield 71, 3) := by decide +kernel
theorem dX6_init_312 : decode mX6_init.2.1 312 = .ok (.iconst 0, 1) := by decide +kernel
theorem dX6_init_313 : decode mX6_init.2.1 313 = .ok (.iconst 3, 1) := by decide +kernel
theorem dX6_init_314 : decode mX6_init.2.1 314 = .ok (.iastore, 1) := by decide +kernel
theorem dX6_init_315 : decode mX6_init.2.1 315 = .ok (.iconst 1, 1) := by decide +kernel
theorem dX6_init_316 : decode mX6_init.2.1 316 = .ok (.istore_n 1, 1) := by decide +kernel
theorem dX6_init_317 : decode mX6_init.2.1 317 = .ok (.iload_n 1, 1) := by decide +kernel
theorem dX6_init_318 : decode mX6_init.2.1 318 = .ok (.bipush 27, 2) := by decide +kernel
theorem dX6_init_320 : decode mX6_init.2.1 320 = .ok (.if_icmp .ge 16, 3) := by decide +kernel
theorem dX6_init_323 : decode mX6_init.2.1 323 = .ok (.aload_n 0, 1) := by decide +kernel
theorem dX6_init_324 : decode mX6_init.2.1 324 = .ok (.getfield 71, 3) := by decide +kernel
theorem dX6_init_327 : decode mX6_init.2.1 327 = .ok (.iload_n 1, 1) := by decide +kernel
theorem dX6_init_328 : decode mX6_init.2.1 328 = .ok (.iconst 5, 1) := by decide +kernel
theorem dX6_init_329 : decode mX6_init.2.1 329 = .ok (.iastore, 1) := by decide +kernel
theorem dX6_init_330 : decode mX6_init.2.1 330 = .ok (.iinc 1 1, 3) := by decide +kernel
theorem dX6_init_333 : decode mX6_init.2.1 333 = .ok (.goto (-16), 3) := by decide +kernel
theorem dX6_init_336 : decode mX6_init.2.1 336 = .ok (.return_, 1) := by decide +kernel
theorem dX6_in_0 : decode mX6_in.2.1 0 = .ok (.iload_n 0, 1) := by decide +kernel
theorem dX6_in_1 : decode mX6_in.2.1 1 = .ok (.iload_n 1, 1) := by decide +kernel
theorem dX6_in_2 : decode mX6_in.2.1 2 = .ok (.if_icmp .lt 12, 3) := by decide +kernel
theorem dX6_in_5 : decode mX6_in.2.1 5 = .ok (.iload_n 0, 1) := by decide +kernel
theorem dX6_in_6 : decode mX6_in.2.1 6 = .ok (.iload_n 2, 1) := by decide +kernel
theorem dX6_in_7 : decode mX6_in.2.1 7 = .ok (.if_icmp .gt 7, 3) := by decide +kernel
theorem dX6_in_10 : decode mX6_in.2.1 10 = .ok (.iconst 1, 1) := by decide +kernel
theorem dX6_in_11 : decode mX6_in.2.1 11 = .ok (.goto 4, 3) := by decide +kernel
theorem dX6_in_14 : decode mX6_in.2.1 14 = .ok (.iconst 0, 1) := by decide +kernel
theorem dX6_in_15 : decode mX6_in.2.1 15 = .ok (.ireturn, 1) := by decide +kernel
theorem dX6_isBook_0 : decode mX6_isBook.2.1 0 = .ok (.iload_n 1, 1) := by decide +kernel
theorem dX6_isBook_1 : decode mX6_isBook.2.1 1 = .ok (.iconst 0, 1) := by decide +kernel
theorem dX6_isBook_2 : decode mX6_isBook.2.1 2 = .ok (.aload_n 0, 1) := by decide +kernel
theorem dX6_isBook_3 : decode mX6_isBook.2.1 3 = .ok (.getfield 126, 3) := by decide +kernel
theorem dX6_isBook_6 : decode mX6_isBook.2.1 6 = .ok (.iconst 1, 1) := by decide +kernel
theorem dX6_isBook_7 : decode mX6_isBook.2.1 7 = .ok (.isub, 1) := by decide +kernel
theorem dX6_isBook_8 : decode mX6_isBook.2.1 8 = .ok (.invokestatic 129, 3) := by decide +kernel
theorem dX6_isBook_11 : decode mX6_isBook.2.1 11 = .ok (.ireturn, 1) := by decide +kernel
theorem dX6_isBench_0 : decode mX6_isBench.2.1 0 = .ok (.iload_n 0, 1) := by decide +kernel
theorem dX6_isBench_1 : decode mX6_isBench.2.1 1 = .ok (.iconst 0, 1) := by decide +kernel
theorem dX6_isBench_2 : decode mX6_isBench.2.1 2 = .ok (.iconst 4, 1) := by decide +kernel
theorem dX6_isBench_3 : decode mX6_isBench.2.1 3 = .ok (.invokestatic 129, 3) := by decide +kernel
theorem dX6_isBench_6 : decode mX6_isBench.2.1 6 = .ok (.ireturn, 1) := by decide +kernel
theorem dX6_isGathering_0 : decode mX6_isGathering.2.1 0 = .ok (.aload_n 0, 1) := by decide +kernel
theorem dX6_isGathering_1 : decode mX6_isGathering.2.1 1 = .ok (.iload_n 1, 1) := by decide +kernel
theorem dX6_isGathering_2 : decode mX6_isGathering.2.1 2 = .ok (.invokevirtual 133, 3) := by decide +kernel
theorem dX6_isGathering_5 : decode mX6_isGathering.2.1 5 = .ok (.ifCond .eq 23, 3) := by decide +kernel
theorem dX6_isGathering_8 : decode mX6_isGathering.2.1 8 = .ok (.iload_n 2, 1) := by decide +kernel
theorem dX6_isGathering_9 : decode mX6_isGathering.2.1 9 = .ok (.iconst 0, 1) := by decide +kernel
theorem dX6_isGathering_10 : decode mX6_isGathering.2.1 10 = .ok (.aload_n 0, 1) := by decide +kernel
theorem dX6_isGathering_11 : decode mX6_isGathering.2.1 11 = .ok (.getfield 13, 3) := by decide +kernel
theorem dX6_isGathering_14 : decode mX6_isGathering.2.1 14 = .ok (.iload_n 1, 1) := by decide +kernel
theorem dX6_isGathering_15 : decode mX6_isGathering.2.1 15 = .ok (.iaload, 1) := by decide +kernel
theorem dX6_isGathering_16 : decode mX6_isGathering.2.1 16 = .ok (.iconst 1, 1) := by decide +kernel
theorem dX6_isGathering_17 : decode mX6_isGathering.2.1 17 = .ok (.isub, 1) := by decide +kernel
theorem dX6_isGathering_18 : decode mX6_isGathering.2.1 18 = .ok (.invokestatic 129, 3) := by decide +kernel
theorem dX6_isGathering_21 : decode mX6_isGathering.2.1 21 = .ok (.ifCond .eq 7, 3) := by decide +kernel
theorem dX6_isGathering_24 : decode mX6_isGathering.2.1 24 = .ok (.iconst 1, 1) := by decide +kernel
theorem dX6_isGathering_25 : decode mX6_isGathering.2.1 25 = .ok (.goto 4, 3) := by decide +kernel
theorem dX6_isGathering_28 : decode mX6_isGathering.2.1 28 = .ok (.iconst 0, 1) := by decide +kernel
theorem dX6_isGathering_29 : decode mX6_isGathering.2.1 29 = .ok (.ireturn, 1) := by decide +kernel
theorem dX6_many_0 : decode mX6_many.2.1 0 = .ok (.iconst 0, 1) := by decide +kernel
theorem dX6_many_1 : decode mX6_many.2.1 1 = .ok (.istore_n 1, 1) := by decide +kernel
theorem dX6_many_2 : decode mX6_many.2.1 2 = .ok (.iconst 0, 1) := by decide +kernel
theorem dX6_many_3 : decode mX6_many.2.1 3 = .ok (.istore_n 2, 1) := by decide +kernel
theorem dX6_many_4 : decode mX6_many.2.1 4 = .ok (.iload_n 2, 1) := by decide +kernel
theorem dX6_many_5 : decode mX6_many.2.1 5 = .ok (.bipush 16, 2) := by decide +kernel
theorem dX6_many_7 : decode mX6_many.2.1 7 = .ok (.if_icmp .ge 17, 3) := by decide +kernel
theorem dX6_many_10 : decode mX6_many.2.1 10 = .ok (.iload_n 1, 1) := by decide +kernel
theorem dX6_many_11 : decode mX6_many.2.1 11 = .ok (.iload_n 0, 1) := by decide +kernel
theorem dX6_many_12 : decode mX6_many.2.1 12 = .ok (.iload_n 2, 1) := by decide +kernel
theorem dX6_many_13 : decode mX6_many.2.1 13 = .ok (.ishr, 1) := by decide +kernel
theorem dX6_many_14 : decode mX6_many.2.1 14 = .ok (.iconst 1, 1) := by decide +kernel
theorem dX6_many_15 : decode mX6_many.2.1 15 = .ok (.iand, 1) := by decide +kernel
theorem dX6_many_16 : decode mX6_many.2.1 16 = .ok (.iadd, 1) := by decide +kernel
theorem dX6_many_17 : decode mX6_many.2.1 17 = .ok (.istore_n 1, 1) := by decide +kernel
theorem dX6_many_18 : decode mX6_many.2.1 18 = .ok (.iinc 2 1, 3) := by decide +kernel
theorem dX6_many_21 : decode mX6_many.2.1 21 = .ok (.goto (-17), 3) := by decide +kernel
theorem dX6_many_24 : decode mX6_many.2.1 24 = .ok (.iload_n 1, 1) := by decide +kernel
theorem dX6_many_25 : decode mX6_many.2.1 25 = .ok (.ireturn, 1) := by decide +kernel
theorem dX6_book_0 : decode mX6_book.2.1 0 = .ok (.aload_n 0, 1) := by decide +kernel
theorem dX6_book_1 : decode mX6_book.2.1 1 = .ok (.getfield 126, 3) := by decide +kernel
theorem dX6_book_4 : decode mX6_book.2.1 4 = .ok (.bipush 10, 2) := by decide +kernel
theorem dX6_book_6 : decode mX6_book.2.1 6 = .ok (.if_icmp .ne 6, 3) := by decide +kernel
theorem dX6_book_9 : decode mX6_book.2.1 9 = .ok (.bipush (-6), 2) := by decide +kernel
theorem dX6_book_11 : decode mX6_book.2.1 11 = .ok (.ireturn, 1) := by decide +kernel
theorem dX6_book_12 : decode mX6_book.2.1 12 = .ok (.iconst 0, 1) := by decide +kernel
theorem dX6_book_13 : decode mX6_book.2.1 13 = .ok (.istore_n 1, 1) := by decide +kernel
theorem dX6_book_14 : decode mX6_book.2.1 14 = .ok (.iload_n 1, 1) := by decide +kernel
theorem dX6_book_15 : decode mX6_book.2.1 15 = .ok (.iconst 5, 1) := by decide +kernel
theorem dX6_book_16 : decode mX6_book.2.1 16 = .ok (.if_icmp .ge 23, 3) := by decide +kernel
theorem dX6_book_19 : decode mX6_book.2.1 19 = .ok (.aload_n 0, 1) := by decide +kernel
theorem dX6_book_20 : decode mX6_book.2.1 20 = .ok (.getfield 32, 3) := by decide +kernel
theorem dX6_book_23 : decode mX6_book.2.1 23 = .ok (.iconst 5, 1) := by decide +kernel
theorem dX6_book_24 : decode mX6_book.2.1 24 = .ok (.aload_n 0, 1) := by decide +kernel
theorem dX6_book_25 : decode mX6_book.2.1 25 = .ok (.getfield 126, 3) := by decide +kernel
theorem dX6_book_28 : decode mX6_book.2.1 28 = .ok (.imul, 1) := by decide +kernel
theorem dX6_book_29 : decode mX6_book.2.1 29 = .ok (.iload_n 1, 1) := by decide +kernel
theorem dX6_book_30 : decode mX6_book.2.1 30 = .ok (.iadd, 1) := by decide +kernel
theorem dX6_book_31 : decode mX6_book.2.1 31 = .ok (.iconst 1, 1) := by decide +kernel
theorem dX6_book_32 : decode mX6_book.2.1 32 = .ok (.iastore, 1) := by decide +kernel
theorem dX6_book_33 : decode mX6_book.2.1 33 = .ok (.iinc 1 1, 3) := by decide +kernel
theorem dX6_book_36 : decode mX6_book.2.1 36 = .ok (.goto (-22), 3) := by decide +kernel
theorem dX6_book_39 : decode mX6_book.2.1 39 = .ok (.aload_n 0, 1) := by decide +kernel
theorem dX6_book_40 : decode mX6_book.2.1 40 = .ok (.getfield 38, 3) := by decide +kernel
theorem dX6_book_43 : decode mX6_book.2.1 43 = .ok (.aload_n 0, 1) := by decide +kernel
theorem dX6_book_44 : decode mX6_book.2.1 44 = .ok (.getfield 126, 3) := by decide +kernel
theorem dX6_book_47 : decode mX6_book.2.1 47 = .ok (.sipush 2000, 3) := by decide +kernel
theorem dX6_book_50 : decode mX6_book.2.1 50 = .ok (.iastore, 1) := by decide +kernel
theorem dX6_book_51 : decode mX6_book.2.1 51 = .ok (.aload_n 0, 1) := by decide +kernel
theorem dX6_book_52 : decode mX6_book.2.1 52 = .ok (.dup, 1) := by decide +kernel
theorem dX6_book_53 : decode mX6_book.2.1 53 = .ok (.getfield 126, 3) := by decide +kernel
theorem dX6_book_56 : decode mX6_book.2.1 56 = .ok (.iconst 1, 1) := by decide +kernel
theorem dX6_book_57 : decode mX6_book.2.1 57 = .ok (.iadd, 1) := by decide +kernel
theorem dX6_book_58 : decode mX6_book.2.1 58 = .ok (.putfield 126, 3) := by decide +kernel
theorem dX6_book_61 : decode mX6_book.2.1 61 = .ok (.aload_n 0, 1) := by decide +kernel
theorem dX6_book_62 : decode mX6_book.2.1 62 = .ok (.getfield 126, 3) := by decide +kernel
theorem dX6_book_65 : decode mX6_book.2.1 65 = .ok (.iconst 1, 1) := by decide +kernel
theorem dX6_book_66 : decode mX6_book.2.1 66 = .ok (.isub, 1) := by decide +kernel
theorem dX6_book_67 : decode mX6_book.2.1 67 = .ok (.ireturn, 1) := by decide +kernel
theorem dX6_gather_0 : decode mX6_gather.2.1 0 = .ok (.aload_n 0, 1) := by decide +kernel
theorem dX6_gather_1 : decode mX6_gather.2.1 1 = .ok (.iload_n 1, 1) := by decide +kernel
theorem dX6_gather_2 : decode mX6_gather.2.1 2 = .ok (.invokevirtual 133, 3) := by decide +kernel
theorem dX6_gather_5 : decode mX6_gather.2.1 5 = .ok (.ifCond .ne 6, 3) := by decide +kernel
theorem dX6_gather_8 : decode mX6_gather.2.1 8 = .ok (.bipush (-2), 2) := by decide +kernel
theorem dX6_gather_10 : decode mX6_gather.2.1 10 = .ok (.ireturn, 1) := by decide +kernel
theorem dX6_gather_11 : decode mX6_gather.2.1 11 = .ok (.iload_n 2, 1) := by decide +kernel
theorem dX6_gather_12 : decode mX6_gather.2.1 12 = .ok (.iconst 1, 1) := by decide +kernel
theorem dX6_gather_13 : decode mX6_gather.2.1 13 = .ok (.bipush 16, 2) := by decide +kernel
theorem dX6_gather_15 : decode mX6_gather.2.1 15 = .ok (.invokestatic 129, 3) := by decide +kernel
theorem dX6_gather_18 : decode mX6_gather.2.1 18 = .ok (.ifCond .ne 6, 3) := by decide +kernel
theorem dX6_gather_21 : decode mX6_gather.2.1 21 = .ok (.bipush (-3), 2) := by decide +kernel
theorem dX6_gather_23 : decode mX6_gather.2.1 23 = .ok (.ireturn, 1) := by decide +kernel
theorem dX6_gather_24 : decode mX6_gather.2.1 24 = .ok (.aload_n 0, 1) := by decide +kernel
theorem dX6_gather_25 : decode mX6_gather.2.1 25 = .ok (.getfield 7, 3) := by decide +kernel
theorem dX6_gather_28 : decode mX6_gather.2.1 28 = .ok (.iload_n 1, 1) := by decide +kernel
theorem dX6_gather_29 : decode mX6_gather.2.1 29 = .ok (.iaload, 1) := by decide +kernel
theorem dX6_gather_30 : decode mX6_gather.2.1 30 = .ok (.ifCond .eq 6, 3) := by decide +kernel
theorem dX6_gather_33 : decode mX6_gather.2.1 33 = .ok (.bipush (-4), 2) := by decide +kernel
theorem dX6_gather_35 : decode mX6_gather.2.1 35 = .ok (.ireturn, 1) := by decide +kernel
theorem dX6_gather_36 : decode mX6_gather.2.1 36 = .ok (.aload_n 0, 1) := by decide +kernel
theorem dX6_gather_37 : decode mX6_gather.2.1 37 = .ok (.getfield 13, 3) := by decide +kernel
theorem dX6_gather_40 : decode mX6_gather.2.1 40 = .ok (.iload_n 1, 1) := by decide +kernel
theorem dX6_gather_41 : decode mX6_gather.2.1 41 = .ok (.iaload, 1) := by decide +kernel
theorem dX6_gather_42 : decode mX6_gather.2.1 42 = .ok (.bipush 6, 2) := by decide +kernel
theorem dX6_gather_44 : decode mX6_gather.2.1 44 = .ok (.if_icmp .ne 6, 3) := by decide +kernel
theorem dX6_gather_47 : decode mX6_gather.2.1 47 = .ok (.bipush (-6), 2) := by decide +kernel
theorem dX6_gather_49 : decode mX6_gather.2.1 49 = .ok (.ireturn, 1) := by decide +kernel
theorem dX6_gather_50 : decode mX6_gather.2.1 50 = .ok (.bipush 6, 2) := by decide +kernel
theorem dX6_gather_52 : decode mX6_gather.2.1 52 = .ok (.iload_n 1, 1) := by decide +kernel
theorem dX6_gather_53 : decode mX6_gather.2.1 53 = .ok (.imul, 1) := by decide +kernel
theorem dX6_gather_54 : decode mX6_gather.2.1 54 = .ok (.aload_n 0, 1) := by decide +kernel
theorem dX6_gather_55 : decode mX6_gather.2.1 55 = .ok (.getfield 13, 3) := by decide +kernel
theorem dX6_gather_58 : decode mX6_gather.2.1 58 = .ok (.iload_n 1, 1) := by decide +kernel
theorem dX6_gather_59 : decode mX6_gather.2.1 59 = .ok (.iaload, 1) := by decide +kernel
theorem dX6_gather_60 : decode mX6_gather.2.1 60 = .ok (.iadd, 1) := by decide +kernel
theorem dX6_gather_61 : decode mX6_gather.2.1 61 = .ok (.istore_n 3, 1) := by decide +kernel
theorem dX6_gather_62 : decode mX6_gather.2.1 62 = .ok (.aload_n 0, 1) := by decide +kernel
theorem dX6_gather_63 : decode mX6_gather.2.1 63 = .ok (.getfield 16, 3) := by decide +kernel
theorem dX6_gather_66 : decode mX6_gather.2.1 66 = .ok (.iload_n 3, 1) := by decide +kernel
theorem dX6_gather_67 : decode mX6_gather.2.1 67 = .ok (.iload_n 2, 1) := by decide +kernel
theorem dX6_gather_68 : decode mX6_gather.2.1 68 = .ok (.iastore, 1) := by decide +kernel
theorem dX6_gather_69 : decode mX6_gather.2.1 69 = .ok (.aload_n 0, 1) := by decide +kernel
theorem dX6_gather_70 : decode mX6_gather.2.1 70 = .ok (.getfield 19, 3) := by decide +kernel
theorem dX6_gather_73 : decode mX6_gather.2.1 73 = .ok (.iload_n 3, 1) := by decide +kernel
theorem dX6_gather_74 : decode mX6_gather.2.1 74 = .ok (.iconst 1, 1) := by decide +kernel
theorem dX6_gather_75 : decode mX6_gather.2.1 75 = .ok (.iload_n 2, 1) := by decide +kernel
theorem dX6_gather_76 : decode mX6_gather.2.1 76 = .ok (.ishl, 1) := by decide +kernel
theorem dX6_gather_77 : decode mX6_gather.2.1 77 = .ok (.iconst 1, 1) := by decide +kernel
theorem dX6_gather_78 : decode mX6_gather.2.1 78 = .ok (.isub, 1) := by decide +kernel
theorem dX6_gather_79 : decode mX6_gather.2.1 79 = .ok (.iastore, 1) := by decide +kernel
theorem dX6_gather_80 : decode mX6_gather.2.1 80 = .ok (.aload_n 0, 1) := by decide +kernel
theorem dX6_gather_81 : decode mX6_gather.2.1 81 = .ok (.getfield 13, 3) := by decide +kernel
theorem dX6_gather_84 : decode mX6_gather.2.1 84 = .ok (.iload_n 1, 1) := by decide +kernel
theorem dX6_gather_85 : decode mX6_gather.2.1 85 = .ok (.dup2, 1) := by decide +kernel
theorem dX6_gather_86 : decode mX6_gather.2.1 86 = .ok (.iaload, 1) := by decide +kernel
theorem dX6_gather_87 : decode mX6_gather.2.1 87 = .ok (.iconst 1, 1) := by decide +kernel
theorem dX6_gather_88 : decode mX6_gather.2.1 88 = .ok (.iadd, 1) := by decide +kernel
theorem dX6_gather_89 : decode mX6_gather.2.1 89 = .ok (.iastore, 1) := by decide +kernel
theorem dX6_gather_90 : decode mX6_gather.2.1 90 = .ok (.aload_n 0, 1) := by decide +kernel
theorem dX6_gather_91 : decode mX6_gather.2.1 91 = .ok (.getfield 13, 3) := by decide +kernel
theorem dX6_gather_94 : decode mX6_gather.2.1 94 = .ok (.iload_n 1, 1) := by decide +kernel
theorem dX6_gather_95 : decode mX6_gather.2.1 95 = .ok (.iaload, 1) := by decide +kernel
theorem dX6_gather_96 : decode mX6_gather.2.1 96 = .ok (.iconst 1, 1) := by decide +kernel
theorem dX6_gather_97 : decode mX6_gather.2.1 97 = .ok (.isub, 1) := by decide +kernel
theorem dX6_gather_98 : decode mX6_gather.2.1 98 = .ok (.ireturn, 1) := by decide +kernel
theorem dX6_look_0 : decode mX6_look.2.1 0 = .ok (.aload_n 0, 1) := by decide +kernel
theorem dX6_look_1 : decode mX6_look.2.1 1 = .ok (.iload_n 1, 1) := by decide +kernel
theorem dX6_look_2 : decode mX6_look.2.1 2 = .ok (.iload_n 2, 1) := by decide +kernel
theorem dX6_look_3 : decode mX6_look.2.1 3 = .ok (.invokevirtual 137, 3) := by decide +kernel
theorem dX6_look_6 : decode mX6_look.2.1 6 = .ok (.ifCond .ne 6, 3) := by decide +kernel
theorem dX6_look_9 : decode mX6_look.2.1 9 = .ok (.bipush (-2), 2) := by decide +kernel
theorem dX6_look_11 : decode mX6_look.2.1 11 = .ok (.ireturn, 1) := by decide +kernel
theorem dX6_look_12 : decode mX6_look.2.1 12 = .ok (.bipush 6, 2) := by decide +kernel
theorem dX6_look_14 : decode mX6_look.2.1 14 = .ok (.iload_n 1, 1) := by decide +kernel
theorem dX6_look_15 : decode mX6_look.2.1 15 = .ok (.imul, 1) := by decide +kernel
theorem dX6_look_16 : decode mX6_look.2.1 16 = .ok (.iload_n 2, 1) := by decide +kernel
theorem dX6_look_17 : decode mX6_look.2.1 17 = .ok (.iadd, 1) := by decide +kernel
theorem dX6_look_18 : decode mX6_look.2.1 18 = .ok (.istore 4, 2) := by decide +kernel
theorem dX6_look_20 : decode mX6_look.2.1 20 = .ok (.iload_n 3, 1) := by decide +kernel
theorem dX6_look_21 : decode mX6_look.2.1 21 = .ok (.iconst 0, 1) := by decide +kernel
theorem dX6_look_22 : decode mX6_look.2.1 22 = .ok (.iconst 1, 1) := by decide +kernel
theorem dX6_look_23 : decode mX6_look.2.1 23 = .ok (.aload_n 0, 1) := by decide +kernel
theorem dX6_look_24 : decode mX6_look.2.1 24 = .ok (.getfield 16, 3) := by decide +kernel
theorem dX6_look_27 : decode mX6_look.2.1 27 = .ok (.iload 4, 2) := by decide +kernel
theorem dX6_look_29 : decode mX6_look.2.1 29 = .ok (.iaload, 1) := by decide +kernel
theorem dX6_look_30 : decode mX6_look.2.1 30 = .ok (.ishl, 1) := by decide +kernel
theorem dX6_look_31 : decode mX6_look.2.1 31 = .ok (.iconst 1, 1) := by decide +kernel
theorem dX6_look_32 : decode mX6_look.2.1 32 = .ok (.isub, 1) := by decide +kernel
theorem dX6_look_33 : decode mX6_look.2.1 33 = .ok (.invokestatic 129, 3) := by decide +kernel
theorem dX6_look_36 : decode mX6_look.2.1 36 = .ok (.ifCond .ne 6, 3) := by decide +kernel
theorem dX6_look_39 : decode mX6_look.2.1 39 = .ok (.bipush (-3), 2) := by decide +kernel
theorem dX6_look_41 : decode mX6_look.2.1 41 = .ok (.ireturn, 1) := by decide +kernel
theorem dX6_look_42 : decode mX6_look.2.1 42 = .ok (.aload_n 0, 1) := by decide +kernel
theorem dX6_look_43 : decode mX6_look.2.1 43 = .ok (.getfield 7, 3) := by decide +kernel
theorem dX6_look_46 : decode mX6_look.2.1 46 = .ok (.iload_n 1, 1) := by decide +kernel
theorem dX6_look_47 : decode mX6_look.2.1 47 = .ok (.iaload, 1) := by decide +kernel
theorem dX6_look_48 : decode mX6_look.2.1 48 = .ok (.iconst 5, 1) := by decide +kernel
theorem dX6_look_49 : decode mX6_look.2.1 49 = .ok (.if_icmp .ne 6, 3) := by decide +kernel
theorem dX6_look_52 : decode mX6_look.2.1 52 = .ok (.bipush (-4), 2) := by decide +kernel
theorem dX6_look_54 : decode mX6_look.2.1 54 = .ok (.ireturn, 1) := by decide +kernel
theorem dX6_look_55 : decode mX6_look.2.1 55 = .ok (.aload_n 0, 1) := by decide +kernel
theorem dX6_look_56 : decode mX6_look.2.1 56 = .ok (.getfield 19, 3) := by decide +kernel
theorem dX6_look_59 : decode mX6_look.2.1 59 = .ok (.iload 4, 2) := by decide +kernel
theorem dX6_look_61 : decode mX6_look.2.1 61 = .ok (.iaload, 1) := by decide +kernel
theorem dX6_look_62 : decode mX6_look.2.1 62 = .ok (.iload_n 3, 1) := by decide +kernel
theorem dX6_look_63 : decode mX6_look.2.1 63 = .ok (.iconst (-1), 1) := by decide +kernel
theorem dX6_look_64 : decode mX6_look.2.1 64 = .ok (.ixor, 1) := by decide +kernel
theorem dX6_look_65 : decode mX6_look.2.1 65 = .ok (.iand, 1) := by decide +kernel
theorem dX6_look_66 : decode mX6_look.2.1 66 = .ok (.invokestatic 141, 3) := by decide +kernel
theorem dX6_look_69 : decode mX6_look.2.1 69 = .ok (.istore 5, 2) := by decide +kernel
theorem dX6_look_71 : decode mX6_look.2.1 71 = .ok (.iload_n 3, 1) := by decide +kernel
theorem dX6_look_72 : decode mX6_look.2.1 72 = .ok (.aload_n 0, 1) := by decide +kernel
theorem dX6_look_73 : decode mX6_look.2.1 73 = .ok (.getfield 19, 3) := by decide +kernel
theorem dX6_look_76 : decode mX6_look.2.1 76 = .ok (.iload 4, 2) := by decide +kernel
theorem dX6_look_78 : decode mX6_look.2.1 78 = .ok (.iaload, 1) := by decide +kernel
theorem dX6_look_79 : decode mX6_look.2.1 79 = .ok (.iconst (-1), 1) := by decide +kernel
theorem dX6_look_80 : decode mX6_look.2.1 80 = .ok (.ixor, 1) := by decide +kernel
theorem dX6_look_81 : decode mX6_look.2.1 81 = .ok (.iand, 1) := by decide +kernel
theorem dX6_look_82 : decode mX6_look.2.1 82 = .ok (.invokestatic 141, 3) := by decide +kernel
theorem dX6_look_85 : decode mX6_look.2.1 85 = .ok (.istore 6, 2) := by decide +kernel
theorem dX6_look_87 : decode mX6_look.2.1 87 = .ok (.aload_n 0, 1) := by decide +kernel
theorem dX6_look_88 : decode mX6_look.2.1 88 = .ok (.getfield 26, 3) := by decide +kernel
theorem dX6_look_91 : decode mX6_look.2.1 91 = .ok (.iconst 5, 1) := by decide +kernel
theorem dX6_look_92 : decode mX6_look.2.1 92 = .ok (.iload_n 1, 1) := by decide +kernel
theorem dX6_look_93 : decode mX6_look.2.1 93 = .ok (.imul, 1) := by decide +kernel
theorem dX6_look_94 : decode mX6_look.2.1 94 = .ok (.aload_n 0, 1) := by decide +kernel
theorem dX6_look_95 : decode mX6_look.2.1 95 = .ok (.getfield 7, 3) := by decide +kernel
theorem dX6_look_98 : decode mX6_look.2.1 98 = .ok (.iload_n 1, 1) := by decide +kernel
theorem dX6_look_99 : decode mX6_look.2.1 99 = .ok (.iaload, 1) := by decide +kernel
theorem dX6_look_100 : decode mX6_look.2.1 100 = .ok (.iadd, 1) := by decide +kernel
theorem dX6_look_101 : decode mX6_look.2.1 101 = .ok (.dup2, 1) := by decide +kernel
theorem dX6_look_102 : decode mX6_look.2.1 102 = .ok (.iaload, 1) := by decide +kernel
theorem dX6_look_103 : decode mX6_look.2.1 103 = .ok (.iload 5, 2) := by decide +kernel
theorem dX6_look_105 : decode mX6_look.2.1 105 = .ok (.iadd, 1) := by decide +kernel
theorem dX6_look_106 : decode mX6_look.2.1 106 = .ok (.iastore, 1) := by decide +kernel
theorem dX6_look_107 : decode mX6_look.2.1 107 = .ok (.aload_n 0, 1) := by decide +kernel
theorem dX6_look_108 : decode mX6_look.2.1 108 = .ok (.getfield 29, 3) := by decide +kernel
theorem dX6_look_111 : decode mX6_look.2.1 111 = .ok (.iconst 5, 1) := by decide +kernel
theorem dX6_look_112 : decode mX6_look.2.1 112 = .ok (.iload_n 1, 1) := by decide +kernel
theorem dX6_look_113 : decode mX6_look.2.1 113 = .ok (.imul, 1) := by decide +kernel
theorem dX6_look_114 : decode mX6_look.2.1 114 = .ok (.aload_n 0, 1) := by decide +kernel
theorem dX6_look_115 : decode mX6_look.2.1 115 = .ok (.getfield 7, 3) := by decide +kernel
theorem dX6_look_118 : decode mX6_look.2.1 118 = .ok (.iload_n 1, 1) := by decide +kernel
theorem dX6_look_119 : decode mX6_look.2.1 119 = .ok (.iaload, 1) := by decide +kernel
theorem dX6_look_120 : decode mX6_look.2.1 120 = .ok (.iadd, 1) := by decide +kernel
theorem dX6_look_121 : decode mX6_look.2.1 121 = .ok (.dup2, 1) := by decide +kernel
theorem dX6_look_122 : decode mX6_look.2.1 122 = .ok (.iaload, 1) := by decide +kernel
theorem dX6_look_123 : decode mX6_look.2.1 123 = .ok (.iload 6, 2) := by decide +kernel
theorem dX6_look_125 : decode mX6_look.2.1 125 = .ok (.iadd, 1) := by decide +kernel
theorem dX6_look_126 : decode mX6_look.2.1 126 = .ok (.iastore, 1) := by decide +kernel
theorem dX6_look_127 : decode mX6_look.2.1 127 = .ok (.aload_n 0, 1) := by decide +kernel
theorem dX6_look_128 : decode mX6_look.2.1 128 = .ok (.getfield 19, 3) := by decide +kernel
theorem dX6_look_131 : decode mX6_look.2.1 131 = .ok (.iload 4, 2) := by decide +kernel
theorem dX6_look_133 : decode mX6_look.2.1 133 = .ok (.iload_n 3, 1) := by decide +kernel
theorem dX6_look_134 : decode mX6_look.2.1 134 = .ok (.iastore, 1) := by decide +kernel
theorem dX6_look_135 : decode mX6_look.2.1 135 = .ok (.aload_n 0, 1) := by decide +kernel
theorem dX6_look_136 : decode mX6_look.2.1 136 = .ok (.getfield 22, 3) := by decide +kernel
theorem dX6_look_139 : decode mX6_look.2.1 139 = .ok (.iload 4, 2) := by decide +kernel
theorem dX6_look_141 : decode mX6_look.2.1 141 = .ok (.iconst 1, 1) := by decide +kernel
theorem dX6_look_142 : decode mX6_look.2.1 142 = .ok (.bastore, 1) := by decide +kernel
theorem dX6_look_143 : decode mX6_look.2.1 143 = .ok (.iload 5, 2) := by decide +kernel
theorem dX6_look_145 : decode mX6_look.2.1 145 = .ok (.iload 6, 2) := by decide +kernel
theorem dX6_look_147 : decode mX6_look.2.1 147 = .ok (.iadd, 1) := by decide +kernel
theorem dX6_look_148 : decode mX6_look.2.1 148 = .ok (.ireturn, 1) := by decide +kernel
theorem dX6_pass_0 : decode mX6_pass.2.1 0 = .ok (.aload_n 0, 1) := by decide +kernel
theorem dX6_pass_1 : decode mX6_pass.2.1 1 = .ok (.iload_n 1, 1) := by decide +kernel
theorem dX6_pass_2 : decode mX6_pass.2.1 2 = .ok (.invokevirtual 133, 3) := by decide +kernel
theorem dX6_pass_5 : decode mX6_pass.2.1 5 = .ok (.ifCond .ne 6, 3) := by decide +kernel
theorem dX6_pass_8 : decode mX6_pass.2.1 8 = .ok (.bipush (-2), 2) := by decide +kernel
theorem dX6_pass_10 : decode mX6_pass.2.1 10 = .ok (.ireturn, 1) := by decide +kernel
theorem dX6_pass_11 : decode mX6_pass.2.1 11 = .ok (.aload_n 0, 1) := by decide +kernel
theorem dX6_pass_12 : decode mX6_pass.2.1 12 = .ok (.getfield 7, 3) := by decide +kernel
theorem dX6_pass_15 : decode mX6_pass.2.1 15 = .ok (.iload_n 1, 1) := by decide +kernel
theorem dX6_pass_16 : decode mX6_pass.2.1 16 = .ok (.iaload, 1) := by decide +kernel
theorem dX6_pass_17 : decode mX6_pass.2.1 17 = .ok (.iconst 5, 1) := by decide +kernel
theorem dX6_pass_18 : decode mX6_pass.2.1 18 = .ok (.if_icmp .ge 16, 3) := by decide +kernel
theorem dX6_pass_21 : decode mX6_pass.2.1 21 = .ok (.aload_n 0, 1) := by decide +kernel
theorem dX6_pass_22 : decode mX6_pass.2.1 22 = .ok (.getfield 13, 3) := by decide +kernel
theorem dX6_pass_25 : decode mX6_pass.2.1 25 = .ok (.iload_n 1, 1) := by decide +kernel
theorem dX6_pass_26 : decode mX6_pass.2.1 26 = .ok (.iaload, 1) := by decide +kernel
theorem dX6_pass_27 : decode mX6_pass.2.1 27 = .ok (.ifCond .le 7, 3) := by decide +kernel
theorem dX6_pass_30 : decode mX6_pass.2.1 30 = .ok (.iconst 1, 1) := by decide +kernel
theorem dX6_pass_31 : decode mX6_pass.2.1 31 = .ok (.goto 4, 3) := by decide +kernel
theorem dX6_pass_34 : decode mX6_pass.2.1 34 = .ok (.iconst 0, 1) := by decide +kernel
theorem dX6_pass_35 : decode mX6_pass.2.1 35 = .ok (.istore_n 2, 1) := by decide +kernel
theorem dX6_pass_36 : decode mX6_pass.2.1 36 = .ok (.iconst 0, 1) := by decide +kernel
theorem dX6_pass_37 : decode mX6_pass.2.1 37 = .ok (.istore_n 3, 1) := by decide +kernel
theorem dX6_pass_38 : decode mX6_pass.2.1 38 = .ok (.iload_n 3, 1) := by decide +kernel
theorem dX6_pass_39 : decode mX6_pass.2.1 39 = .ok (.aload_n 0, 1) := by decide +kernel
theorem dX6_pass_40 : decode mX6_pass.2.1 40 = .ok (.getfield 13, 3) := by decide +kernel
theorem dX6_pass_43 : decode mX6_pass.2.1 43 = .ok (.iload_n 1, 1) := by decide +kernel
theorem dX6_pass_44 : decode mX6_pass.2.1 44 = .ok (.iaload, 1) := by decide +kernel
theorem dX6_pass_45 : decode mX6_pass.2.1 45 = .ok (.if_icmp .ge 33, 3) := by decide +kernel
theorem dX6_pass_48 : decode mX6_pass.2.1 48 = .ok (.iload_n 2, 1) := by decide +kernel
theorem dX6_pass_49 : decode mX6_pass.2.1 49 = .ok (.ifCond .eq 21, 3) := by decide +kernel
theorem dX6_pass_52 : decode mX6_pass.2.1 52 = .ok (.aload_n 0, 1) := by decide +kernel
theorem dX6_pass_53 : decode mX6_pass.2.1 53 = .ok (.getfield 22, 3) := by decide +kernel
theorem dX6_pass_56 : decode mX6_pass.2.1 56 = .ok (.bipush 6, 2) := by decide +kernel
theorem dX6_pass_58 : decode mX6_pass.2.1 58 = .ok (.iload_n 1, 1) := by decide +kernel
theorem dX6_pass_59 : decode mX6_pass.2.1 59 = .ok (.imul, 1) := by decide +kernel
theorem dX6_pass_60 : decode mX6_pass.2.1 60 = .ok (.iload_n 3, 1) := by decide +kernel
theorem dX6_pass_61 : decode mX6_pass.2.1 61 = .ok (.iadd, 1) := by decide +kernel
theorem dX6_pass_62 : decode mX6_pass.2.1 62 = .ok (.baload, 1) := by decide +kernel
theorem dX6_pass_63 : decode mX6_pass.2.1 63 = .ok (.ifCond .eq 7, 3) := by decide +kernel
theorem dX6_pass_66 : decode mX6_pass.2.1 66 = .ok (.iconst 1, 1) := by decide +kernel
theorem dX6_pass_67 : decode mX6_pass.2.1 67 = .ok (.goto 4, 3) := by decide +kernel
theorem dX6_pass_70 : decode mX6_pass.2.1 70 = .ok (.iconst 0, 1) := by decide +kernel
theorem dX6_pass_71 : decode mX6_pass.2.1 71 = .ok (.istore_n 2, 1) := by decide +kernel
theorem dX6_pass_72 : decode mX6_pass.2.1 72 = .ok (.iinc 3 1, 3) := by decide +kernel
theorem dX6_pass_75 : decode mX6_pass.2.1 75 = .ok (.goto (-37), 3) := by decide +kernel
theorem dX6_pass_78 : decode mX6_pass.2.1 78 = .ok (.iload_n 2, 1) := by decide +kernel
theorem dX6_pass_79 : decode mX6_pass.2.1 79 = .ok (.ifCond .ne 6, 3) := by decide +kernel
theorem dX6_pass_82 : decode mX6_pass.2.1 82 = .ok (.bipush (-4), 2) := by decide +kernel
theorem dX6_pass_84 : decode mX6_pass.2.1 84 = .ok (.ireturn, 1) := by decide +kernel
theorem dX6_pass_85 : decode mX6_pass.2.1 85 = .ok (.aload_n 0, 1) := by decide +kernel
theorem dX6_pass_86 : decode mX6_pass.2.1 86 = .ok (.getfield 44, 3) := by decide +kernel
theorem dX6_pass_89 : decode mX6_pass.2.1 89 = .ok (.aload_n 0, 1) := by decide +kernel
theorem dX6_pass_90 : decode mX6_pass.2.1 90 = .ok (.getfield 145, 3) := by decide +kernel
theorem dX6_pass_93 : decode mX6_pass.2.1 93 = .ok (.aload_n 0, 1) := by decide +kernel
theorem dX6_pass_94 : decode mX6_pass.2.1 94 = .ok (.getfield 7, 3) := by decide +kernel
theorem dX6_pass_97 : decode mX6_pass.2.1 97 = .ok (.iload_n 1, 1) := by decide +kernel
theorem dX6_pass_98 : decode mX6_pass.2.1 98 = .ok (.iaload, 1) := by decide +kernel
theorem dX6_pass_99 : decode mX6_pass.2.1 99 = .ok (.iastore, 1) := by decide +kernel
theorem dX6_pass_100 : decode mX6_pass.2.1 100 = .ok (.aload_n 0, 1) := by decide +kernel
theorem dX6_pass_101 : decode mX6_pass.2.1 101 = .ok (.getfield 47, 3) := by decide +kernel
theorem dX6_pass_104 : decode mX6_pass.2.1 104 = .ok (.aload_n 0, 1) := by decide +kernel
theorem dX6_pass_105 : decode mX6_pass.2.1 105 = .ok (.getfield 145, 3) := by decide +kernel
theorem dX6_pass_108 : decode mX6_pass.2.1 108 = .ok (.aload_n 0, 1) := by decide +kernel
theorem dX6_pass_109 : decode mX6_pass.2.1 109 = .ok (.getfield 148, 3) := by decide +kernel
theorem dX6_pass_112 : decode mX6_pass.2.1 112 = .ok (.iastore, 1) := by decide +kernel
theorem dX6_pass_113 : decode mX6_pass.2.1 113 = .ok (.aload_n 0, 1) := by decide +kernel
theorem dX6_pass_114 : decode mX6_pass.2.1 114 = .ok (.dup, 1) := by decide +kernel
theorem dX6_pass_115 : decode mX6_pass.2.1 115 = .ok (.getfield 145, 3) := by decide +kernel
theorem dX6_pass_118 : decode mX6_pass.2.1 118 = .ok (.iconst 1, 1) := by decide +kernel
theorem dX6_pass_119 : decode mX6_pass.2.1 119 = .ok (.iadd, 1) := by decide +kernel
theorem dX6_pass_120 : decode mX6_pass.2.1 120 = .ok (.putfield 145, 3) := by decide +kernel
theorem dX6_pass_123 : decode mX6_pass.2.1 123 = .ok (.aload_n 0, 1) := by decide +kernel
theorem dX6_pass_124 : decode mX6_pass.2.1 124 = .ok (.getfield 7, 3) := by decide +kernel
theorem dX6_pass_127 : decode mX6_pass.2.1 127 = .ok (.iload_n 1, 1) := by decide +kernel
theorem dX6_pass_128 : decode mX6_pass.2.1 128 = .ok (.dup2, 1) := by decide +kernel
theorem dX6_pass_129 : decode mX6_pass.2.1 129 = .ok (.iaload, 1) := by decide +kernel
theorem dX6_pass_130 : decode mX6_pass.2.1 130 = .ok (.iconst 1, 1) := by decide +kernel
theorem dX6_pass_131 : decode mX6_pass.2.1 131 = .ok (.iadd, 1) := by decide +kernel
theorem dX6_pass_132 : decode mX6_pass.2.1 132 = .ok (.iastore, 1) := by decide +kernel
theorem dX6_pass_133 : decode mX6_pass.2.1 133 = .ok (.iconst 0, 1) := by decide +kernel
theorem dX6_pass_134 : decode mX6_pass.2.1 134 = .ok (.istore_n 3, 1) := by decide +kernel
theorem dX6_pass_135 : decode mX6_pass.2.1 135 = .ok (.iload_n 3, 1) := by decide +kernel
theorem dX6_pass_136 : decode mX6_pass.2.1 136 = .ok (.bipush 6, 2) := by decide +kernel
theorem dX6_pass_138 : decode mX6_pass.2.1 138 = .ok (.if_icmp .ge 21, 3) := by decide +kernel
theorem dX6_pass_141 : decode mX6_pass.2.1 141 = .ok (.aload_n 0, 1) := by decide +kernel
theorem dX6_pass_142 : decode mX6_pass.2.1 142 = .ok (.getfield 22, 3) := by decide +kernel
theorem dX6_pass_145 : decode mX6_pass.2.1 145 = .ok (.bipush 6, 2) := by decide +kernel
theorem dX6_pass_147 : decode mX6_pass.2.1 147 = .ok (.iload_n 1, 1) := by decide +kernel
theorem dX6_pass_148 : decode mX6_pass.2.1 148 = .ok (.imul, 1) := by decide +kernel
theorem dX6_pass_149 : decode mX6_pass.2.1 149 = .ok (.iload_n 3, 1) := by decide +kernel
theorem dX6_pass_150 : decode mX6_pass.2.1 150 = .ok (.iadd, 1) := by decide +kernel
theorem dX6_pass_151 : decode mX6_pass.2.1 151 = .ok (.iconst 0, 1) := by decide +kernel
theorem dX6_pass_152 : decode mX6_pass.2.1 152 = .ok (.bastore, 1) := by decide +kernel
theorem dX6_pass_153 : decode mX6_pass.2.1 153 = .ok (.iinc 3 1, 3) := by decide +kernel
theorem dX6_pass_156 : decode mX6_pass.2.1 156 = .ok (.goto (-21), 3) := by decide +kernel
theorem dX6_pass_159 : decode mX6_pass.2.1 159 = .ok (.aload_n 0, 1) := by decide +kernel
theorem dX6_pass_160 : decode mX6_pass.2.1 160 = .ok (.getfield 7, 3) := by decide +kernel
theorem dX6_pass_163 : decode mX6_pass.2.1 163 = .ok (.iload_n 1, 1) := by decide +kernel
theorem dX6_pass_164 : decode mX6_pass.2.1 164 = .ok (.iaload, 1) := by decide +kernel
theorem dX6_pass_165 : decode mX6_pass.2.1 165 = .ok (.ireturn, 1) := by decide +kernel
theorem dX6_told_0 : decode mX6_told.2.1 0 = .ok (.aload_n 0, 1) := by decide +kernel
theorem dX6_told_1 : decode mX6_told.2.1 1 = .ok (.iload_n 1, 1) := by decide +kernel
theorem dX6_told_2 : decode mX6_told.2.1 2 = .ok (.invokevirtual 133, 3) := by decide +kernel
theorem dX6_told_5 : decode mX6_told.2.1 5 = .ok (.ifCond .ne 6, 3) := by decide +kernel
theorem dX6_told_8 : decode mX6_told.2.1 8 = .ok (.bipush (-2), 2) := by decide +kernel
theorem dX6_told_10 : decode mX6_told.2.1 10 = .ok (.ireturn, 1) := by decide +kernel
theorem dX6_told_11 : decode mX6_told.2.1 11 = .ok (.iload_n 2, 1) := by decide +kernel
theorem dX6_told_12 : decode mX6_told.2.1 12 = .ok (.iconst 0, 1) := by decide +kernel
theorem dX6_told_13 : decode mX6_told.2.1 13 = .ok (.iconst 3, 1) := by decide +kernel
theorem dX6_told_14 : decode mX6_told.2.1 14 = .ok (.invokestatic 129, 3) := by decide +kernel
theorem dX6_told_17 : decode mX6_told.2.1 17 = .ok (.ifCond .ne 6, 3) := by decide +kernel
theorem dX6_told_20 : decode mX6_told.2.1 20 = .ok (.bipush (-3), 2) := by decide +kernel
theorem dX6_told_22 : decode mX6_told.2.1 22 = .ok (.ireturn, 1) := by decide +kernel
theorem dX6_told_23 : decode mX6_told.2.1 23 = .ok (.iconst 0, 1) := by decide +kernel
theorem dX6_told_24 : decode mX6_told.2.1 24 = .ok (.istore_n 3, 1) := by decide +kernel
theorem dX6_told_25 : decode mX6_told.2.1 25 = .ok (.iconst 0, 1) := by decide +kernel
theorem dX6_told_26 : decode mX6_told.2.1 26 = .ok (.istore 4, 2) := by decide +kernel
theorem dX6_told_28 : decode mX6_told.2.1 28 = .ok (.iload 4, 2) := by decide +kernel
theorem dX6_told_30 : decode mX6_told.2.1 30 = .ok (.aload_n 0, 1) := by decide +kernel
theorem dX6_told_31 : decode mX6_told.2.1 31 = .ok (.getfield 13, 3) := by decide +kernel
theorem dX6_told_34 : decode mX6_told.2.1 34 = .ok (.iload_n 1, 1) := by decide +kernel
theorem dX6_told_35 : decode mX6_told.2.1 35 = .ok (.iaload, 1) := by decide +kernel
theorem dX6_told_36 : decode mX6_told.2.1 36 = .ok (.if_icmp .ge 52, 3) := by decide +kernel
theorem dX6_told_39 : decode mX6_told.2.1 39 = .ok (.iload_n 2, 1) := by decide +kernel
theorem dX6_told_40 : decode mX6_told.2.1 40 = .ok (.iconst 1, 1) := by decide +kernel
theorem dX6_told_41 : decode mX6_told.2.1 41 = .ok (.if_icmp .le 47, 3) := by decide +kernel
theorem dX6_told_44 : decode mX6_told.2.1 44 = .ok (.iload_n 3, 1) := by decide +kernel
theorem dX6_told_45 : decode mX6_told.2.1 45 = .ok (.iload_n 2, 1) := by decide +kernel
theorem dX6_told_46 : decode mX6_told.2.1 46 = .ok (.iconst 2, 1) := by decide +kernel
theorem dX6_told_47 : decode mX6_told.2.1 47 = .ok (.if_icmp .ne 21, 3) := by decide +kernel
theorem dX6_told_50 : decode mX6_told.2.1 50 = .ok (.aload_n 0, 1) := by decide +kernel
theorem dX6_told_51 : decode mX6_told.2.1 51 = .ok (.getfield 19, 3) := by decide +kernel
theorem dX6_told_54 : decode mX6_told.2.1 54 = .ok (.bipush 6, 2) := by decide +kernel
theorem dX6_told_56 : decode mX6_told.2.1 56 = .ok (.iload_n 1, 1) := by decide +kernel
theorem dX6_told_57 : decode mX6_told.2.1 57 = .ok (.imul, 1) := by decide +kernel
theorem dX6_told_58 : decode mX6_told.2.1 58 = .ok (.iload 4, 2) := by decide +kernel
theorem dX6_told_60 : decode mX6_told.2.1 60 = .ok (.iadd, 1) := by decide +kernel
theorem dX6_told_61 : decode mX6_told.2.1 61 = .ok (.iaload, 1) := by decide +kernel
theorem dX6_told_62 : decode mX6_told.2.1 62 = .ok (.invokestatic 141, 3) := by decide +kernel
theorem dX6_told_65 : decode mX6_told.2.1 65 = .ok (.goto 15, 3) := by decide +kernel
theorem dX6_told_68 : decode mX6_told.2.1 68 = .ok (.aload_n 0, 1) := by decide +kernel
theorem dX6_told_69 : decode mX6_told.2.1 69 = .ok (.getfield 16, 3) := by decide +kernel
theorem dX6_told_72 : decode mX6_told.2.1 72 = .ok (.bipush 6, 2) := by decide +kernel
theorem dX6_told_74 : decode mX6_told.2.1 74 = .ok (.iload_n 1, 1) := by decide +kernel
theorem dX6_told_75 : decode mX6_told.2.1 75 = .ok (.imul, 1) := by decide +kernel
theorem dX6_told_76 : decode mX6_told.2.1 76 = .ok (.iload 4, 2) := by decide +kernel
theorem dX6_told_78 : decode mX6_told.2.1 78 = .ok (.iadd, 1) := by decide +kernel
theorem dX6_told_79 : decode mX6_told.2.1 79 = .ok (.iaload, 1) := by decide +kernel
theorem dX6_told_80 : decode mX6_told.2.1 80 = .ok (.iadd, 1) := by decide +kernel
theorem dX6_told_81 : decode mX6_told.2.1 81 = .ok (.istore_n 3, 1) := by decide +kernel
theorem dX6_told_82 : decode mX6_told.2.1 82 = .ok (.iinc 4 1, 3) := by decide +kernel
theorem dX6_told_85 : decode mX6_told.2.1 85 = .ok (.goto (-57), 3) := by decide +kernel
theorem dX6_told_88 : decode mX6_told.2.1 88 = .ok (.iload_n 2, 1) := by decide +kernel
theorem dX6_told_89 : decode mX6_told.2.1 89 = .ok (.ifCond .ne 12, 3) := by decide +kernel
theorem dX6_told_92 : decode mX6_told.2.1 92 = .ok (.aload_n 0, 1) := by decide +kernel
theorem dX6_told_93 : decode mX6_told.2.1 93 = .ok (.getfield 7, 3) := by decide +kernel
theorem dX6_told_96 : decode mX6_told.2.1 96 = .ok (.iload_n 1, 1) := by decide +kernel
theorem dX6_told_97 : decode mX6_told.2.1 97 = .ok (.iaload, 1) := by decide +kernel
theorem dX6_told_98 : decode mX6_told.2.1 98 = .ok (.goto 18, 3) := by decide +kernel
theorem dX6_told_101 : decode mX6_told.2.1 101 = .ok (.iload_n 2, 1) := by decide +kernel
theorem dX6_told_102 : decode mX6_told.2.1 102 = .ok (.iconst 1, 1) := by decide +kernel
theorem dX6_told_103 : decode mX6_told.2.1 103 = .ok (.if_icmp .ne 12, 3) := by decide +kernel
theorem dX6_told_106 : decode mX6_told.2.1 106 = .ok (.aload_n 0, 1) := by decide +kernel
theorem dX6_told_107 : decode mX6_told.2.1 107 = .ok (.getfield 13, 3) := by decide +kernel
theorem dX6_told_110 : decode mX6_told.2.1 110 = .ok (.iload_n 1, 1) := by decide +kernel
theorem dX6_told_111 : decode mX6_told.2.1 111 = .ok (.iaload, 1) := by decide +kernel
theorem dX6_told_112 : decode mX6_told.2.1 112 = .ok (.goto 4, 3) := by decide +kernel
theorem dX6_told_115 : decode mX6_told.2.1 115 = .ok (.iload_n 3, 1) := by decide +kernel
theorem dX6_told_116 : decode mX6_told.2.1 116 = .ok (.ireturn, 1) := by decide +kernel
theorem dX6_there_0 : decode mX6_there.2.1 0 = .ok (.aload_n 0, 1) := by decide +kernel
theorem dX6_there_1 : decode mX6_there.2.1 1 = .ok (.iload_n 1, 1) := by decide +kernel
theorem dX6_there_2 : decode mX6_there.2.1 2 = .ok (.iload_n 2, 1) := by decide +kernel
theorem dX6_there_3 : decode mX6_there.2.1 3 = .ok (.invokevirtual 137, 3) := by decide +kernel
theorem dX6_there_6 : decode mX6_there.2.1 6 = .ok (.ifCond .eq 17, 3) := by decide +kernel
theorem dX6_there_9 : decode mX6_there.2.1 9 = .ok (.aload_n 0, 1) := by decide +kernel
theorem dX6_there_10 : decode mX6_there.2.1 10 = .ok (.getfield 19, 3) := by decide +kernel
theorem dX6_there_13 : decode mX6_there.2.1 13 = .ok (.bipush 6, 2) := by decide +kernel
theorem dX6_there_15 : decode mX6_there.2.1 15 = .ok (.iload_n 1, 1) := by decide +kernel
theorem dX6_there_16 : decode mX6_there.2.1 16 = .ok (.imul, 1) := by decide +kernel
theorem dX6_there_17 : decode mX6_there.2.1 17 = .ok (.iload_n 2, 1) := by decide +kernel
theorem dX6_there_18 : decode mX6_there.2.1 18 = .ok (.iadd, 1) := by decide +kernel
theorem dX6_there_19 : decode mX6_there.2.1 19 = .ok (.iaload, 1) := by decide +kernel
theorem dX6_there_20 : decode mX6_there.2.1 20 = .ok (.goto 5, 3) := by decide +kernel
theorem dX6_there_23 : decode mX6_there.2.1 23 = .ok (.bipush (-2), 2) := by decide +kernel
theorem dX6_there_25 : decode mX6_there.2.1 25 = .ok (.ireturn, 1) := by decide +kernel
theorem dX6_gone_0 : decode mX6_gone.2.1 0 = .ok (.aload_n 0, 1) := by decide +kernel
theorem dX6_gone_1 : decode mX6_gone.2.1 1 = .ok (.iload_n 1, 1) := by decide +kernel
theorem dX6_gone_2 : decode mX6_gone.2.1 2 = .ok (.invokevirtual 133, 3) := by decide +kernel
theorem dX6_gone_5 : decode mX6_gone.2.1 5 = .ok (.ifCond .eq 10, 3) := by decide +kernel
theorem dX6_gone_8 : decode mX6_gone.2.1 8 = .ok (.iload_n 2, 1) := by decide +kernel
theorem dX6_gone_9 : decode mX6_gone.2.1 9 = .ok (.invokestatic 151, 3) := by decide +kernel
theorem dX6_gone_12 : decode mX6_gone.2.1 12 = .ok (.ifCond .ne 6, 3) := by decide +kernel
theorem dX6_gone_15 : decode mX6_gone.2.1 15 = .ok (.bipush (-2), 2) := by decide +kernel
theorem dX6_gone_17 : decode mX6_gone.2.1 17 = .ok (.ireturn, 1) := by decide +kernel
theorem dX6_gone_18 : decode mX6_gone.2.1 18 = .ok (.iload_n 3, 1) := by decide +kernel
theorem dX6_gone_19 : decode mX6_gone.2.1 19 = .ok (.ifCond .ne 16, 3) := by decide +kernel
theorem dX6_gone_22 : decode mX6_gone.2.1 22 = .ok (.aload_n 0, 1) := by decide +kernel
theorem dX6_gone_23 : decode mX6_gone.2.1 23 = .ok (.getfield 26, 3) := by decide +kernel
theorem dX6_gone_26 : decode mX6_gone.2.1 26 = .ok (.iconst 5, 1) := by decide +kernel
theorem dX6_gone_27 : decode mX6_gone.2.1 27 = .ok (.iload_n 1, 1) := by decide +kernel
theorem dX6_gone_28 : decode mX6_gone.2.1 28 = .ok (.imul, 1) := by decide +kernel
theorem dX6_gone_29 : decode mX6_gone.2.1 29 = .ok (.iload_n 2, 1) := by decide +kernel
theorem dX6_gone_30 : decode mX6_gone.2.1 30 = .ok (.iadd, 1) := by decide +kernel
theorem dX6_gone_31 : decode mX6_gone.2.1 31 = .ok (.iaload, 1) := by decide +kernel
theorem dX6_gone_32 : decode mX6_gone.2.1 32 = .ok (.goto 23, 3) := by decide +kernel
theorem dX6_gone_35 : decode mX6_gone.2.1 35 = .ok (.iload_n 3, 1) := by decide +kernel
theorem dX6_gone_36 : decode mX6_gone.2.1 36 = .ok (.iconst 1, 1) := by decide +kernel
theorem dX6_gone_37 : decode mX6_gone.2.1 37 = .ok (.if_icmp .ne 16, 3) := by decide +kernel
theorem dX6_gone_40 : decode mX6_gone.2.1 40 = .ok (.aload_n 0, 1) := by decide +kernel
theorem dX6_gone_41 : decode mX6_gone.2.1 41 = .ok (.getfield 29, 3) := by decide +kernel
theorem dX6_gone_44 : decode mX6_gone.2.1 44 = .ok (.iconst 5, 1) := by decide +kernel
theorem dX6_gone_45 : decode mX6_gone.2.1 45 = .ok (.iload_n 1, 1) := by decide +kernel
theorem dX6_gone_46 : decode mX6_gone.2.1 46 = .ok (.imul, 1) := by decide +kernel
theorem dX6_gone_47 : decode mX6_gone.2.1 47 = .ok (.iload_n 2, 1) := by decide +kernel
theorem dX6_gone_48 : decode mX6_gone.2.1 48 = .ok (.iadd, 1) := by decide +kernel
theorem dX6_gone_49 : decode mX6_gone.2.1 49 = .ok (.iaload, 1) := by decide +kernel
theorem dX6_gone_50 : decode mX6_gone.2.1 50 = .ok (.goto 5, 3) := by decide +kernel
theorem dX6_gone_53 : decode mX6_gone.2.1 53 = .ok (.bipush (-3), 2) := by decide +kernel
theorem dX6_gone_55 : decode mX6_gone.2.1 55 = .ok (.ireturn, 1) := by decide +kernel
theorem dX6_hours_0 : decode mX6_hours.2.1 0 = .ok (.aload_n 0, 1) := by decide +kernel
theorem dX6_hours_1 : decode mX6_hours.2.1 1 = .ok (.iload_n 1, 1) := by decide +kernel
theorem dX6_hours_2 : decode mX6_hours.2.1 2 = .ok (.invokevirtual 133, 3) := by decide +kernel
theorem dX6_hours_5 : decode mX6_hours.2.1 5 = .ok (.ifCond .eq 10, 3) := by decide +kernel
theorem dX6_hours_8 : decode mX6_hours.2.1 8 = .ok (.iload_n 2, 1) := by decide +kernel
theorem dX6_hours_9 : decode mX6_hours.2.1 9 = .ok (.invokestatic 151, 3) := by decide +kernel
theorem dX6_hours_12 : decode mX6_hours.2.1 12 = .ok (.ifCond .ne 6, 3) := by decide +kernel
theorem dX6_hours_15 : decode mX6_hours.2.1 15 = .ok (.bipush (-2), 2) := by decide +kernel
theorem dX6_hours_17 : decode mX6_hours.2.1 17 = .ok (.ireturn, 1) := by decide +kernel
theorem dX6_hours_18 : decode mX6_hours.2.1 18 = .ok (.iload_n 3, 1) := by decide +kernel
theorem dX6_hours_19 : decode mX6_hours.2.1 19 = .ok (.iconst 0, 1) := by decide +kernel
theorem dX6_hours_20 : decode mX6_hours.2.1 20 = .ok (.bipush 50, 2) := by decide +kernel
theorem dX6_hours_22 : decode mX6_hours.2.1 22 = .ok (.invokestatic 129, 3) := by decide +kernel
theorem dX6_hours_25 : decode mX6_hours.2.1 25 = .ok (.ifCond .ne 6, 3) := by decide +kernel
theorem dX6_hours_28 : decode mX6_hours.2.1 28 = .ok (.bipush (-3), 2) := by decide +kernel
theorem dX6_hours_30 : decode mX6_hours.2.1 30 = .ok (.ireturn, 1) := by decide +kernel
theorem dX6_hours_31 : decode mX6_hours.2.1 31 = .ok (.aload_n 0, 1) := by decide +kernel
theorem dX6_hours_32 : decode mX6_hours.2.1 32 = .ok (.getfield 32, 3) := by decide +kernel
theorem dX6_hours_35 : decode mX6_hours.2.1 35 = .ok (.iconst 5, 1) := by decide +kernel
theorem dX6_hours_36 : decode mX6_hours.2.1 36 = .ok (.iload_n 1, 1) := by decide +kernel
theorem dX6_hours_37 : decode mX6_hours.2.1 37 = .ok (.imul, 1) := by decide +kernel
theorem dX6_hours_38 : decode mX6_hours.2.1 38 = .ok (.iload_n 2, 1) := by decide +kernel
theorem dX6_hours_39 : decode mX6_hours.2.1 39 = .ok (.iadd, 1) := by decide +kernel
theorem dX6_hours_40 : decode mX6_hours.2.1 40 = .ok (.iload_n 3, 1) := by decide +kernel
theorem dX6_hours_41 : decode mX6_hours.2.1 41 = .ok (.iastore, 1) := by decide +kernel
theorem dX6_hours_42 : decode mX6_hours.2.1 42 = .ok (.iconst 1, 1) := by decide +kernel
theorem dX6_hours_43 : decode mX6_hours.2.1 43 = .ok (.ireturn, 1) := by decide +kernel
theorem dX6_promise_0 : decode mX6_promise.2.1 0 = .ok (.aload_n 0, 1) := by decide +kernel
theorem dX6_promise_1 : decode mX6_promise.2.1 1 = .ok (.iload_n 1, 1) := by decide +kernel
theorem dX6_promise_2 : decode mX6_promise.2.1 2 = .ok (.invokevirtual 133, 3) := by decide +kernel
theorem dX6_promise_5 : decode mX6_promise.2.1 5 = .ok (.ifCond .ne 6, 3) := by decide +kernel
theorem dX6_promise_8 : decode mX6_promise.2.1 8 = .ok (.bipush (-2), 2) := by decide +kernel
theorem dX6_promise_10 : decode mX6_promise.2.1 10 = .ok (.ireturn, 1) := by decide +kernel
theorem dX6_promise_11 : decode mX6_promise.2.1 11 = .ok (.iload_n 2, 1) := by decide +kernel
theorem dX6_promise_12 : decode mX6_promise.2.1 12 = .ok (.iconst 0, 1) := by decide +kernel
theorem dX6_promise_13 : decode mX6_promise.2.1 13 = .ok (.bipush 30, 2) := by decide +kernel
theorem dX6_promise_15 : decode mX6_promise.2.1 15 = .ok (.invokestatic 129, 3) := by decide +kernel
theorem dX6_promise_18 : decode mX6_promise.2.1 18 = .ok (.ifCond .eq 25, 3) := by decide +kernel
theorem dX6_promise_21 : decode mX6_promise.2.1 21 = .ok (.iload_n 3, 1) := by decide +kernel
theorem dX6_promise_22 : decode mX6_promise.2.1 22 = .ok (.iconst 0, 1) := by decide +kernel
theorem dX6_promise_23 : decode mX6_promise.2.1 23 = .ok (.sipush 2000, 3) := by decide +kernel
theorem dX6_promise_26 : decode mX6_promise.2.1 26 = .ok (.invokestatic 129, 3) := by decide +kernel
theorem dX6_promise_29 : decode mX6_promise.2.1 29 = .ok (.ifCond .eq 14, 3) := by decide +kernel
theorem dX6_promise_32 : decode mX6_promise.2.1 32 = .ok (.iload 4, 2) := by decide +kernel
theorem dX6_promise_34 : decode mX6_promise.2.1 34 = .ok (.iconst 0, 1) := by decide +kernel
theorem dX6_promise_35 : decode mX6_promise.2.1 35 = .ok (.bipush 100, 2) := by decide +kernel
theorem dX6_promise_37 : decode mX6_promise.2.1 37 = .ok (.invokestatic 129, 3) := by decide +kernel
theorem dX6_promise_40 : decode mX6_promise.2.1 40 = .ok (.ifCond .ne 6, 3) := by decide +kernel
theorem dX6_promise_43 : decode mX6_promise.2.1 43 = .ok (.bipush (-3), 2) := by decide +kernel
theorem dX6_promise_45 : decode mX6_promise.2.1 45 = .ok (.ireturn, 1) := by decide +kernel
theorem dX6_promise_46 : decode mX6_promise.2.1 46 = .ok (.aload_n 0, 1) := by decide +kernel
theorem dX6_promise_47 : decode mX6_promise.2.1 47 = .ok (.getfield 35, 3) := by decide +kernel
theorem dX6_promise_50 : decode mX6_promise.2.1 50 = .ok (.iload_n 1, 1) := by decide +kernel
theorem dX6_promise_51 : decode mX6_promise.2.1 51 = .ok (.iload_n 2, 1) := by decide +kernel
theorem dX6_promise_52 : decode mX6_promise.2.1 52 = .ok (.iastore, 1) := by decide +kernel
theorem dX6_promise_53 : decode mX6_promise.2.1 53 = .ok (.aload_n 0, 1) := by decide +kernel
theorem dX6_promise_54 : decode mX6_promise.2.1 54 = .ok (.getfield 38, 3) := by decide +kernel
theorem dX6_promise_57 : decode mX6_promise.2.1 57 = .ok (.iload_n 1, 1) := by decide +kernel
theorem dX6_promise_58 : decode mX6_promise.2.1 58 = .ok (.iload_n 3, 1) := by decide +kernel
theorem dX6_promise_59 : decode mX6_promise.2.1 59 = .ok (.iastore, 1) := by decide +kernel
theorem dX6_promise_60 : decode mX6_promise.2.1 60 = .ok (.aload_n 0, 1) := by decide +kernel
theorem dX6_promise_61 : decode mX6_promise.2.1 61 = .ok (.getfield 41, 3) := by decide +kernel
theorem dX6_promise_64 : decode mX6_promise.2.1 64 = .ok (.iload_n 1, 1) := by decide +kernel
theorem dX6_promise_65 : decode mX6_promise.2.1 65 = .ok (.iload 4, 2) := by decide +kernel
theorem dX6_promise_67 : decode mX6_promise.2.1 67 = .ok (.iastore, 1) := by decide +kernel
theorem dX6_promise_68 : decode mX6_promise.2.1 68 = .ok (.iconst 1, 1) := by decide +kernel
theorem dX6_promise_69 : decode mX6_promise.2.1 69 = .ok (.ireturn, 1) := by decide +kernel
theorem dX6_findEnds_0 : decode mX6_findEnds.2.1 0 = .ok (.iconst 0, 1) := by decide +kernel
theorem dX6_findEnds_1 : decode mX6_findEnds.2.1 1 = .ok (.istore_n 2, 1) := by decide +kernel
theorem dX6_findEnds_2 : decode mX6_findEnds.2.1 2 = .ok (.iload_n 2, 1) := by decide +kernel
theorem dX6_findEnds_3 : decode mX6_findEnds.2.1 3 = .ok (.iconst 5, 1) := by decide +kernel
theorem dX6_findEnds_4 : decode mX6_findEnds.2.1 4 = .ok (.if_icmp .ge 16, 3) := by decide +kernel
theorem dX6_findEnds_7 : decode mX6_findEnds.2.1 7 = .ok (.aload_n 0, 1) := by decide +kernel
theorem dX6_findEnds_8 : decode mX6_findEnds.2.1 8 = .ok (.getfield 68, 3) := by decide +kernel
theorem dX6_findEnds_11 : decode mX6_findEnds.2.1 11 = .ok (.iload_n 2, 1) := by decide +kernel
theorem dX6_findEnds_12 : decode mX6_findEnds.2.1 12 = .ok (.iconst 0, 1) := by decide +kernel
theorem dX6_findEnds_13 : decode mX6_findEnds.2.1 13 = .ok (.iastore, 1) := by decide +kernel
theorem dX6_findEnds_14 : decode mX6_findEnds.2.1 14 = .ok (.iinc 2 1, 3) := by decide +kernel
theorem dX6_findEnds_17 : decode mX6_findEnds.2.1 17 = .ok (.goto (-15), 3) := by decide +kernel
theorem dX6_findEnds_20 : decode mX6_findEnds.2.1 20 = .ok (.iconst 0, 1) := by decide +kernel
theorem dX6_findEnds_21 : decode mX6_findEnds.2.1 21 = .ok (.istore_n 2, 1) := by decide +kernel
theorem dX6_findEnds_22 : decode mX6_findEnds.2.1 22 = .ok (.iload_n 2, 1) := by decide +kernel
theorem dX6_findEnds_23 : decode mX6_findEnds.2.1 23 = .ok (.iload_n 1, 1) := by decide +kernel
theorem dX6_findEnds_24 : decode mX6_findEnds.2.1 24 = .ok (.if_icmp .ge 107, 3) := by decide +kernel
theorem dX6_findEnds_27 : decode mX6_findEnds.2.1 27 = .ok (.iconst 0, 1) := by decide +kernel
theorem dX6_findEnds_28 : decode mX6_findEnds.2.1 28 = .ok (.istore_n 3, 1) := by decide +kernel
theorem dX6_findEnds_29 : decode mX6_findEnds.2.1 29 = .ok (.iconst 0, 1) := by decide +kernel
theorem dX6_findEnds_30 : decode mX6_findEnds.2.1 30 = .ok (.istore 4, 2) := by decide +kernel
theorem dX6_findEnds_32 : decode mX6_findEnds.2.1 32 = .ok (.iload 4, 2) := by decide +kernel
theorem dX6_findEnds_34 : decode mX6_findEnds.2.1 34 = .ok (.iconst 5, 1) := by decide +kernel
theorem dX6_findEnds_35 : decode mX6_findEnds.2.1 35 = .ok (.if_icmp .ge 83, 3) := by decide +kernel
theorem dX6_findEnds_38 : decode mX6_findEnds.2.1 38 = .ok (.iload_n 3, 1) := by decide +kernel
theorem dX6_findEnds_39 : decode mX6_findEnds.2.1 39 = .ok (.iload 4, 2) := by decide +kernel
theorem dX6_findEnds_41 : decode mX6_findEnds.2.1 41 = .ok (.iconst 3, 1) := by decide +kernel
theorem dX6_findEnds_42 : decode mX6_findEnds.2.1 42 = .ok (.if_icmp .ne 17, 3) := by decide +kernel
theorem dX6_findEnds_45 : decode mX6_findEnds.2.1 45 = .ok (.aload_n 0, 1) := by decide +kernel
theorem dX6_findEnds_46 : decode mX6_findEnds.2.1 46 = .ok (.getfield 59, 3) := by decide +kernel
theorem dX6_findEnds_49 : decode mX6_findEnds.2.1 49 = .ok (.aload_n 0, 1) := by decide +kernel
theorem dX6_findEnds_50 : decode mX6_findEnds.2.1 50 = .ok (.getfield 62, 3) := by decide +kernel
theorem dX6_findEnds_53 : decode mX6_findEnds.2.1 53 = .ok (.iload_n 2, 1) := by decide +kernel
theorem dX6_findEnds_54 : decode mX6_findEnds.2.1 54 = .ok (.iaload, 1) := by decide +kernel
theorem dX6_findEnds_55 : decode mX6_findEnds.2.1 55 = .ok (.iaload, 1) := by decide +kernel
theorem dX6_findEnds_56 : decode mX6_findEnds.2.1 56 = .ok (.goto 4, 3) := by decide +kernel
theorem dX6_findEnds_59 : decode mX6_findEnds.2.1 59 = .ok (.iconst 0, 1) := by decide +kernel
theorem dX6_findEnds_60 : decode mX6_findEnds.2.1 60 = .ok (.iadd, 1) := by decide +kernel
theorem dX6_findEnds_61 : decode mX6_findEnds.2.1 61 = .ok (.istore_n 3, 1) := by decide +kernel
theorem dX6_findEnds_62 : decode mX6_findEnds.2.1 62 = .ok (.iload_n 3, 1) := by decide +kernel
theorem dX6_findEnds_63 : decode mX6_findEnds.2.1 63 = .ok (.aload_n 0, 1) := by decide +kernel
theorem dX6_findEnds_64 : decode mX6_findEnds.2.1 64 = .ok (.getfield 68, 3) := by decide +kernel
theorem dX6_findEnds_67 : decode mX6_findEnds.2.1 67 = .ok (.iload 4, 2) := by decide +kernel
theorem dX6_findEnds_69 : decode mX6_findEnds.2.1 69 = .ok (.iaload, 1) := by decide +kernel
theorem dX6_findEnds_70 : decode mX6_findEnds.2.1 70 = .ok (.if_icmp .le 7, 3) := by decide +kernel
theorem dX6_findEnds_73 : decode mX6_findEnds.2.1 73 = .ok (.iload_n 3, 1) := by decide +kernel
theorem dX6_findEnds_74 : decode mX6_findEnds.2.1 74 = .ok (.goto 10, 3) := by decide +kernel
theorem dX6_findEnds_77 : decode mX6_findEnds.2.1 77 = .ok (.aload_n 0, 1) := by decide +kernel
theorem dX6_findEnds_78 : decode mX6_findEnds.2.1 78 = .ok (.getfield 68, 3) := by decide +kernel
theorem dX6_findEnds_81 : decode mX6_findEnds.2.1 81 = .ok (.iload 4, 2) := by decide +kernel
theorem dX6_findEnds_83 : decode mX6_findEnds.2.1 83 = .ok (.iaload, 1) := by decide +kernel
theorem dX6_findEnds_84 : decode mX6_findEnds.2.1 84 = .ok (.istore_n 3, 1) := by decide +kernel
theorem dX6_findEnds_85 : decode mX6_findEnds.2.1 85 = .ok (.iload_n 3, 1) := by decide +kernel
theorem dX6_findEnds_86 : decode mX6_findEnds.2.1 86 = .ok (.aload_n 0, 1) := by decide +kernel
theorem dX6_findEnds_87 : decode mX6_findEnds.2.1 87 = .ok (.getfield 56, 3) := by decide +kernel
theorem dX6_findEnds_90 : decode mX6_findEnds.2.1 90 = .ok (.iconst 5, 1) := by decide +kernel
theorem dX6_findEnds_91 : decode mX6_findEnds.2.1 91 = .ok (.aload_n 0, 1) := by decide +kernel
theorem dX6_findEnds_92 : decode mX6_findEnds.2.1 92 = .ok (.getfield 62, 3) := by decide +kernel
theorem dX6_findEnds_95 : decode mX6_findEnds.2.1 95 = .ok (.iload_n 2, 1) := by decide +kernel
theorem dX6_findEnds_96 : decode mX6_findEnds.2.1 96 = .ok (.iaload, 1) := by decide +kernel
theorem dX6_findEnds_97 : decode mX6_findEnds.2.1 97 = .ok (.imul, 1) := by decide +kernel
theorem dX6_findEnds_98 : decode mX6_findEnds.2.1 98 = .ok (.iload 4, 2) := by decide +kernel
theorem dX6_findEnds_100 : decode mX6_findEnds.2.1 100 = .ok (.iadd, 1) := by decide +kernel
theorem dX6_findEnds_101 : decode mX6_findEnds.2.1 101 = .ok (.iaload, 1) := by decide +kernel
theorem dX6_findEnds_102 : decode mX6_findEnds.2.1 102 = .ok (.iadd, 1) := by decide +kernel
theorem dX6_findEnds_103 : decode mX6_findEnds.2.1 103 = .ok (.istore_n 3, 1) := by decide +kernel
theorem dX6_findEnds_104 : decode mX6_findEnds.2.1 104 = .ok (.aload_n 0, 1) := by decide +kernel
theorem dX6_findEnds_105 : decode mX6_findEnds.2.1 105 = .ok (.getfield 68, 3) := by decide +kernel
theorem dX6_findEnds_108 : decode mX6_findEnds.2.1 108 = .ok (.iload 4, 2) := by decide +kernel
theorem dX6_findEnds_110 : decode mX6_findEnds.2.1 110 = .ok (.iload_n 3, 1) := by decide +kernel
theorem dX6_findEnds_111 : decode mX6_findEnds.2.1 111 = .ok (.iastore, 1) := by decide +kernel
theorem dX6_findEnds_112 : decode mX6_findEnds.2.1 112 = .ok (.iinc 4 1, 3) := by decide +kernel
theorem dX6_findEnds_115 : decode mX6_findEnds.2.1 115 = .ok (.goto (-83), 3) := by decide +kernel
theorem dX6_findEnds_118 : decode mX6_findEnds.2.1 118 = .ok (.aload_n 0, 1) := by decide +kernel
theorem dX6_findEnds_119 : decode mX6_findEnds.2.1 119 = .ok (.getfield 65, 3) := by decide +kernel
theorem dX6_findEnds_122 : decode mX6_findEnds.2.1 122 = .ok (.iload_n 2, 1) := by decide +kernel
theorem dX6_findEnds_123 : decode mX6_findEnds.2.1 123 = .ok (.iload_n 3, 1) := by decide +kernel
theorem dX6_findEnds_124 : decode mX6_findEnds.2.1 124 = .ok (.iastore, 1) := by decide +kernel
theorem dX6_findEnds_125 : decode mX6_findEnds.2.1 125 = .ok (.iinc 2 1, 3) := by decide +kernel
theorem dX6_findEnds_128 : decode mX6_findEnds.2.1 128 = .ok (.goto (-106), 3) := by decide +kernel
theorem dX6_findEnds_131 : decode mX6_findEnds.2.1 131 = .ok (.return_, 1) := by decide +kernel
theorem dX6_plan_0 : decode mX6_plan.2.1 0 = .ok (.iload_n 1, 1) := by decide +kernel
theorem dX6_plan_1 : decode mX6_plan.2.1 1 = .ok (.ifCond .lt 12, 3) := by decide +kernel
theorem dX6_plan_4 : decode mX6_plan.2.1 4 = .ok (.iload_n 1, 1) := by decide +kernel
theorem dX6_plan_5 : decode mX6_plan.2.1 5 = .ok (.aload_n 0, 1) := by decide +kernel
theorem dX6_plan_6 : decode mX6_plan.2.1 6 = .ok (.getfield 126, 3) := by decide +kernel
theorem dX6_plan_9 : decode mX6_plan.2.1 9 = .ok (.ishr, 1) := by decide +kernel
theorem dX6_plan_10 : decode mX6_plan.2.1 10 = .ok (.ifCond .eq 6, 3) := by decide +kernel
theorem dX6_plan_13 : decode mX6_plan.2.1 13 = .ok (.bipush (-2), 2) := by decide +kernel
theorem dX6_plan_15 : decode mX6_plan.2.1 15 = .ok (.ireturn, 1) := by decide +kernel
theorem dX6_plan_16 : decode mX6_plan.2.1 16 = .ok (.iload_n 1, 1) := by decide +kernel
theorem dX6_plan_17 : decode mX6_plan.2.1 17 = .ok (.invokestatic 141, 3) := by decide +kernel
theorem dX6_plan_20 : decode mX6_plan.2.1 20 = .ok (.istore_n 2, 1) := by decide +kernel
theorem dX6_plan_21 : decode mX6_plan.2.1 21 = .ok (.iload_n 2, 1) := by decide +kernel
theorem dX6_plan_22 : decode mX6_plan.2.1 22 = .ok (.iconst 1, 1) := by decide +kernel
theorem dX6_plan_23 : decode mX6_plan.2.1 23 = .ok (.bipush 7, 2) := by decide +kernel
theorem dX6_plan_25 : decode mX6_plan.2.1 25 = .ok (.invokestatic 129, 3) := by decide +kernel
theorem dX6_plan_28 : decode mX6_plan.2.1 28 = .ok (.ifCond .ne 6, 3) := by decide +kernel
theorem dX6_plan_31 : decode mX6_plan.2.1 31 = .ok (.bipush (-3), 2) := by decide +kernel
theorem dX6_plan_33 : decode mX6_plan.2.1 33 = .ok (.ireturn, 1) := by decide +kernel
theorem dX6_plan_34 : decode mX6_plan.2.1 34 = .ok (.iconst 0, 1) := by decide +kernel
theorem dX6_plan_35 : decode mX6_plan.2.1 35 = .ok (.istore_n 3, 1) := by decide +kernel
theorem dX6_plan_36 : decode mX6_plan.2.1 36 = .ok (.iload_n 3, 1) := by decide +kernel
theorem dX6_plan_37 : decode mX6_plan.2.1 37 = .ok (.bipush 50, 2) := by decide +kernel
theorem dX6_plan_39 : decode mX6_plan.2.1 39 = .ok (.if_icmp .ge 21, 3) := by decide +kernel
theorem dX6_plan_42 : decode mX6_plan.2.1 42 = .ok (.aload_n 0, 1) := by decide +kernel
theorem dX6_plan_43 : decode mX6_plan.2.1 43 = .ok (.getfield 56, 3) := by decide +kernel
theorem dX6_plan_46 : decode mX6_plan.2.1 46 = .ok (.iload_n 3, 1) := by decide +kernel
theorem dX6_plan_47 : decode mX6_plan.2.1 47 = .ok (.aload_n 0, 1) := by decide +kernel
theorem dX6_plan_48 : decode mX6_plan.2.1 48 = .ok (.getfield 32, 3) := by decide +kernel
theorem dX6_plan_51 : decode mX6_plan.2.1 51 = .ok (.iload_n 3, 1) := by decide +kernel
theorem dX6_plan_52 : decode mX6_plan.2.1 52 = .ok (.iaload, 1) := by decide +kernel
theorem dX6_plan_53 : decode mX6_plan.2.1 53 = .ok (.iastore, 1) := by decide +kernel
theorem dX6_plan_54 : decode mX6_plan.2.1 54 = .ok (.iinc 3 1, 3) := by decide +kernel
theorem dX6_plan_57 : decode mX6_plan.2.1 57 = .ok (.goto (-21), 3) := by decide +kernel
theorem dX6_plan_60 : decode mX6_plan.2.1 60 = .ok (.iconst 0, 1) := by decide +kernel
theorem dX6_plan_61 : decode mX6_plan.2.1 61 = .ok (.istore_n 3, 1) := by decide +kernel
theorem dX6_plan_62 : decode mX6_plan.2.1 62 = .ok (.iload_n 3, 1) := by decide +kernel
theorem dX6_plan_63 : decode mX6_plan.2.1 63 = .ok (.bipush 10, 2) := by decide +kernel
theorem dX6_plan_65 : decode mX6_plan.2.1 65 = .ok (.if_icmp .ge 21, 3) := by decide +kernel
theorem dX6_plan_68 : decode mX6_plan.2.1 68 = .ok (.aload_n 0, 1) := by decide +kernel
theorem dX6_plan_69 : decode mX6_plan.2.1 69 = .ok (.getfield 59, 3) := by decide +kernel
theorem dX6_plan_72 : decode mX6_plan.2.1 72 = .ok (.iload_n 3, 1) := by decide +kernel
theorem dX6_plan_73 : decode mX6_plan.2.1 73 = .ok (.aload_n 0, 1) := by decide +kernel
theorem dX6_plan_74 : decode mX6_plan.2.1 74 = .ok (.getfield 35, 3) := by decide +kernel
theorem dX6_plan_77 : decode mX6_plan.2.1 77 = .ok (.iload_n 3, 1) := by decide +kernel
theorem dX6_plan_78 : decode mX6_plan.2.1 78 = .ok (.iaload, 1) := by decide +kernel
theorem dX6_plan_79 : decode mX6_plan.2.1 79 = .ok (.iastore, 1) := by decide +kernel
theorem dX6_plan_80 : decode mX6_plan.2.1 80 = .ok (.iinc 3 1, 3) := by decide +kernel
theorem dX6_plan_83 : decode mX6_plan.2.1 83 = .ok (.goto (-21), 3) := by decide +kernel
theorem dX6_plan_86 : decode mX6_plan.2.1 86 = .ok (.iconst 1, 1) := by decide +kernel
theorem dX6_plan_87 : decode mX6_plan.2.1 87 = .ok (.istore_n 3, 1) := by decide +kernel
theorem dX6_plan_88 : decode mX6_plan.2.1 88 = .ok (.iconst 2, 1) := by decide +kernel
theorem dX6_plan_89 : decode mX6_plan.2.1 89 = .ok (.istore 4, 2) := by decide +kernel
theorem dX6_plan_91 : decode mX6_plan.2.1 91 = .ok (.iload 4, 2) := by decide +kernel
theorem dX6_plan_93 : decode mX6_plan.2.1 93 = .ok (.iload_n 2, 1) := by decide +kernel
theorem dX6_plan_94 : decode mX6_plan.2.1 94 = .ok (.if_icmp .gt 14, 3) := by decide +kernel
theorem dX6_plan_97 : decode mX6_plan.2.1 97 = .ok (.iload_n 3, 1) := by decide +kernel
theorem dX6_plan_98 : decode mX6_plan.2.1 98 = .ok (.iload 4, 2) := by decide +kernel
theorem dX6_plan_100 : decode mX6_plan.2.1 100 = .ok (.imul, 1) := by decide +kernel
theorem dX6_plan_101 : decode mX6_plan.2.1 101 = .ok (.istore_n 3, 1) := by decide +kernel
theorem dX6_plan_102 : decode mX6_plan.2.1 102 = .ok (.iinc 4 1, 3) := by decide +kernel
theorem dX6_plan_105 : decode mX6_plan.2.1 105 = .ok (.goto (-14), 3) := by decide +kernel
theorem dX6_plan_108 : decode mX6_plan.2.1 108 = .ok (.iconst (-1), 1) := by decide +kernel
theorem dX6_plan_109 : decode mX6_plan.2.1 109 = .ok (.istore 4, 2) := by decide +kernel
theorem dX6_plan_111 : decode mX6_plan.2.1 111 = .ok (.iconst 0, 1) := by decide +kernel
theorem dX6_plan_112 : decode mX6_plan.2.1 112 = .ok (.istore 5, 2) := by decide +kernel
theorem dX6_plan_114 : decode mX6_plan.2.1 114 = .ok (.iconst 0, 1) := by decide +kernel
theorem dX6_plan_115 : decode mX6_plan.2.1 115 = .ok (.istore 6, 2) := by decide +kernel
theorem dX6_plan_117 : decode mX6_plan.2.1 117 = .ok (.iload 6, 2) := by decide +kernel
theorem dX6_plan_119 : decode mX6_plan.2.1 119 = .ok (.iload_n 3, 1) := by decide +kernel
theorem dX6_plan_120 : decode mX6_plan.2.1 120 = .ok (.if_icmp .ge 182, 3) := by decide +kernel
theorem dX6_plan_123 : decode mX6_plan.2.1 123 = .ok (.aload_n 0, 1) := by decide +kernel
theorem dX6_plan_124 : decode mX6_plan.2.1 124 = .ok (.iload_n 1, 1) := by decide +kernel
theorem dX6_plan_125 : decode mX6_plan.2.1 125 = .ok (.iload_n 2, 1) := by decide +kernel
theorem dX6_plan_126 : decode mX6_plan.2.1 126 = .ok (.iload_n 3, 1) := by decide +kernel
theorem dX6_plan_127 : decode mX6_plan.2.1 127 = .ok (.iload 6, 2) := by decide +kernel
theorem dX6_plan_129 : decode mX6_plan.2.1 129 = .ok (.invokevirtual 154, 3) := by decide +kernel
theorem dX6_plan_132 : decode mX6_plan.2.1 132 = .ok (.aload_n 0, 1) := by decide +kernel
theorem dX6_plan_133 : decode mX6_plan.2.1 133 = .ok (.iload_n 2, 1) := by decide +kernel
theorem dX6_plan_134 : decode mX6_plan.2.1 134 = .ok (.invokevirtual 158, 3) := by decide +kernel
theorem dX6_plan_137 : decode mX6_plan.2.1 137 = .ok (.iconst 0, 1) := by decide +kernel
theorem dX6_plan_138 : decode mX6_plan.2.1 138 = .ok (.istore 7, 2) := by decide +kernel
theorem dX6_plan_140 : decode mX6_plan.2.1 140 = .ok (.iconst 0, 1) := by decide +kernel
theorem dX6_plan_141 : decode mX6_plan.2.1 141 = .ok (.istore 8, 2) := by decide +kernel
theorem dX6_plan_143 : decode mX6_plan.2.1 143 = .ok (.iload 8, 2) := by decide +kernel
theorem dX6_plan_145 : decode mX6_plan.2.1 145 = .ok (.iload_n 2, 1) := by decide +kernel
theorem dX6_plan_146 : decode mX6_plan.2.1 146 = .ok (.if_icmp .ge 60, 3) := by decide +kernel
theorem dX6_plan_149 : decode mX6_plan.2.1 149 = .ok (.aload_n 0, 1) := by decide +kernel
theorem dX6_plan_150 : decode mX6_plan.2.1 150 = .ok (.getfield 65, 3) := by decide +kernel
theorem dX6_plan_153 : decode mX6_plan.2.1 153 = .ok (.iload 8, 2) := by decide +kernel
theorem dX6_plan_155 : decode mX6_plan.2.1 155 = .ok (.iaload, 1) := by decide +kernel
theorem dX6_plan_156 : decode mX6_plan.2.1 156 = .ok (.aload_n 0, 1) := by decide +kernel
theorem dX6_plan_157 : decode mX6_plan.2.1 157 = .ok (.getfield 38, 3) := by decide +kernel
theorem dX6_plan_160 : decode mX6_plan.2.1 160 = .ok (.aload_n 0, 1) := by decide +kernel
theorem dX6_plan_161 : decode mX6_plan.2.1 161 = .ok (.getfield 62, 3) := by decide +kernel
theorem dX6_plan_164 : decode mX6_plan.2.1 164 = .ok (.iload 8, 2) := by decide +kernel
theorem dX6_plan_166 : decode mX6_plan.2.1 166 = .ok (.iaload, 1) := by decide +kernel
theorem dX6_plan_167 : decode mX6_plan.2.1 167 = .ok (.iaload, 1) := by decide +kernel
theorem dX6_plan_168 : decode mX6_plan.2.1 168 = .ok (.isub, 1) := by decide +kernel
theorem dX6_plan_169 : decode mX6_plan.2.1 169 = .ok (.istore 9, 2) := by decide +kernel
theorem dX6_plan_171 : decode mX6_plan.2.1 171 = .ok (.iload 7, 2) := by decide +kernel
theorem dX6_plan_173 : decode mX6_plan.2.1 173 = .ok (.iload 9, 2) := by decide +kernel
theorem dX6_plan_175 : decode mX6_plan.2.1 175 = .ok (.ifCond .le 21, 3) := by decide +kernel
theorem dX6_plan_178 : decode mX6_plan.2.1 178 = .ok (.iload 9, 2) := by decide +kernel
theorem dX6_plan_180 : decode mX6_plan.2.1 180 = .ok (.aload_n 0, 1) := by decide +kernel
theorem dX6_plan_181 : decode mX6_plan.2.1 181 = .ok (.getfield 41, 3) := by decide +kernel
theorem dX6_plan_184 : decode mX6_plan.2.1 184 = .ok (.aload_n 0, 1) := by decide +kernel
theorem dX6_plan_185 : decode mX6_plan.2.1 185 = .ok (.getfield 62, 3) := by decide +kernel
theorem dX6_plan_188 : decode mX6_plan.2.1 188 = .ok (.iload 8, 2) := by decide +kernel
theorem dX6_plan_190 : decode mX6_plan.2.1 190 = .ok (.iaload, 1) := by decide +kernel
theorem dX6_plan_191 : decode mX6_plan.2.1 191 = .ok (.iaload, 1) := by decide +kernel
theorem dX6_plan_192 : decode mX6_plan.2.1 192 = .ok (.imul, 1) := by decide +kernel
theorem dX6_plan_193 : decode mX6_plan.2.1 193 = .ok (.goto 4, 3) := by decide +kernel
theorem dX6_plan_196 : decode mX6_plan.2.1 196 = .ok (.iconst 0, 1) := by decide +kernel
theorem dX6_plan_197 : decode mX6_plan.2.1 197 = .ok (.iadd, 1) := by decide +kernel
theorem dX6_plan_198 : decode mX6_plan.2.1 198 = .ok (.istore 7, 2) := by decide +kernel
theorem dX6_plan_200 : decode mX6_plan.2.1 200 = .ok (.iinc 8 1, 3) := by decide +kernel
theorem dX6_plan_203 : decode mX6_plan.2.1 203 = .ok (.goto (-60), 3) := by decide +kernel
theorem dX6_plan_206 : decode mX6_plan.2.1 206 = .ok (.iload 4, 2) := by decide +kernel
theorem dX6_plan_208 : decode mX6_plan.2.1 208 = .ok (.iconst (-1), 1) := by decide +kernel
theorem dX6_plan_209 : decode mX6_plan.2.1 209 = .ok (.if_icmp .eq 30, 3) := by decide +kernel
theorem dX6_plan_212 : decode mX6_plan.2.1 212 = .ok (.iload 7, 2) := by decide +kernel
theorem dX6_plan_214 : decode mX6_plan.2.1 214 = .ok (.iload 4, 2) := by decide +kernel
theorem dX6_plan_216 : decode mX6_plan.2.1 216 = .ok (.if_icmp .lt 23, 3) := by decide +kernel
theorem dX6_plan_219 : decode mX6_plan.2.1 219 = .ok (.iload 7, 2) := by decide +kernel
theorem dX6_plan_221 : decode mX6_plan.2.1 221 = .ok (.iload 4, 2) := by decide +kernel
theorem dX6_plan_223 : decode mX6_plan.2.1 223 = .ok (.if_icmp .ne 73, 3) := by decide +kernel
theorem dX6_plan_226 : decode mX6_plan.2.1 226 = .ok (.aload_n 0, 1) := by decide +kernel
theorem dX6_plan_227 : decode mX6_plan.2.1 227 = .ok (.getfield 65, 3) := by decide +kernel
theorem dX6_plan_230 : decode mX6_plan.2.1 230 = .ok (.iload_n 2, 1) := by decide +kernel
theorem dX6_plan_231 : decode mX6_plan.2.1 231 = .ok (.iconst 1, 1) := by decide +kernel
theorem dX6_plan_232 : decode mX6_plan.2.1 232 = .ok (.isub, 1) := by decide +kernel
theorem dX6_plan_233 : decode mX6_plan.2.1 233 = .ok (.iaload, 1) := by decide +kernel
theorem dX6_plan_234 : decode mX6_plan.2.1 234 = .ok (.iload 5, 2) := by decide +kernel
theorem dX6_plan_236 : decode mX6_plan.2.1 236 = .ok (.if_icmp .ge 60, 3) := by decide +kernel
theorem dX6_plan_239 : decode mX6_plan.2.1 239 = .ok (.iload 7, 2) := by decide +kernel
theorem dX6_plan_241 : decode mX6_plan.2.1 241 = .ok (.istore 4, 2) := by decide +kernel
theorem dX6_plan_243 : decode mX6_plan.2.1 243 = .ok (.aload_n 0, 1) := by decide +kernel
theorem dX6_plan_244 : decode mX6_plan.2.1 244 = .ok (.getfield 65, 3) := by decide +kernel
theorem dX6_plan_247 : decode mX6_plan.2.1 247 = .ok (.iload_n 2, 1) := by decide +kernel
theorem dX6_plan_248 : decode mX6_plan.2.1 248 = .ok (.iconst 1, 1) := by decide +kernel
theorem dX6_plan_249 : decode mX6_plan.2.1 249 = .ok (.isub, 1) := by decide +kernel
theorem dX6_plan_250 : decode mX6_plan.2.1 250 = .ok (.iaload, 1) := by decide +kernel
theorem dX6_plan_251 : decode mX6_plan.2.1 251 = .ok (.istore 5, 2) := by decide +kernel
theorem dX6_plan_253 : decode mX6_plan.2.1 253 = .ok (.iconst 0, 1) := by decide +kernel
theorem dX6_plan_254 : decode mX6_plan.2.1 254 = .ok (.istore 8, 2) := by decide +kernel
theorem dX6_plan_256 : decode mX6_plan.2.1 256 = .ok (.iload 8, 2) := by decide +kernel
theorem dX6_plan_258 : decode mX6_plan.2.1 258 = .ok (.iload_n 2, 1) := by decide +kernel
theorem dX6_plan_259 : decode mX6_plan.2.1 259 = .ok (.if_icmp .ge 37, 3) := by decide +kernel
theorem dX6_plan_262 : decode mX6_plan.2.1 262 = .ok (.aload_n 0, 1) := by decide +kernel
theorem dX6_plan_263 : decode mX6_plan.2.1 263 = .ok (.getfield 50, 3) := by decide +kernel
theorem dX6_plan_266 : decode mX6_plan.2.1 266 = .ok (.iload 8, 2) := by decide +kernel
theorem dX6_plan_268 : decode mX6_plan.2.1 268 = .ok (.aload_n 0, 1) := by decide +kernel
theorem dX6_plan_269 : decode mX6_plan.2.1 269 = .ok (.getfield 62, 3) := by decide +kernel
theorem dX6_plan_272 : decode mX6_plan.2.1 272 = .ok (.iload 8, 2) := by decide +kernel
theorem dX6_plan_274 : decode mX6_plan.2.1 274 = .ok (.iaload, 1) := by decide +kernel
theorem dX6_plan_275 : decode mX6_plan.2.1 275 = .ok (.iastore, 1) := by decide +kernel
theorem dX6_plan_276 : decode mX6_plan.2.1 276 = .ok (.aload_n 0, 1) := by decide +kernel
theorem dX6_plan_277 : decode mX6_plan.2.1 277 = .ok (.getfield 53, 3) := by decide +kernel
theorem dX6_plan_280 : decode mX6_plan.2.1 280 = .ok (.iload 8, 2) := by decide +kernel
theorem dX6_plan_282 : decode mX6_plan.2.1 282 = .ok (.aload_n 0, 1) := by decide +kernel
theorem dX6_plan_283 : decode mX6_plan.2.1 283 = .ok (.getfield 65, 3) := by decide +kernel
theorem dX6_plan_286 : decode mX6_plan.2.1 286 = .ok (.iload 8, 2) := by decide +kernel
theorem dX6_plan_288 : decode mX6_plan.2.1 288 = .ok (.iaload, 1) := by decide +kernel
theorem dX6_plan_289 : decode mX6_plan.2.1 289 = .ok (.iastore, 1) := by decide +kernel
theorem dX6_plan_290 : decode mX6_plan.2.1 290 = .ok (.iinc 8 1, 3) := by decide +kernel
theorem dX6_plan_293 : decode mX6_plan.2.1 293 = .ok (.goto (-37), 3) := by decide +kernel
theorem dX6_plan_296 : decode mX6_plan.2.1 296 = .ok (.iinc 6 1, 3) := by decide +kernel
theorem dX6_plan_299 : decode mX6_plan.2.1 299 = .ok (.goto (-182), 3) := by decide +kernel
theorem dX6_plan_302 : decode mX6_plan.2.1 302 = .ok (.aload_n 0, 1) := by decide +kernel
theorem dX6_plan_303 : decode mX6_plan.2.1 303 = .ok (.iload_n 2, 1) := by decide +kernel
theorem dX6_plan_304 : decode mX6_plan.2.1 304 = .ok (.putfield 162, 3) := by decide +kernel
theorem dX6_plan_307 : decode mX6_plan.2.1 307 = .ok (.iload 4, 2) := by decide +kernel
theorem dX6_plan_309 : decode mX6_plan.2.1 309 = .ok (.ireturn, 1) := by decide +kernel
theorem dX6_tell_0 : decode mX6_tell.2.1 0 = .ok (.iconst 0, 1) := by decide +kernel
theorem dX6_tell_1 : decode mX6_tell.2.1 1 = .ok (.istore 5, 2) := by decide +kernel
theorem dX6_tell_3 : decode mX6_tell.2.1 3 = .ok (.iload 4, 2) := by decide +kernel
theorem dX6_tell_5 : decode mX6_tell.2.1 5 = .ok (.istore 6, 2) := by decide +kernel
theorem dX6_tell_7 : decode mX6_tell.2.1 7 = .ok (.iload_n 3, 1) := by decide +kernel
theorem dX6_tell_8 : decode mX6_tell.2.1 8 = .ok (.istore 7, 2) := by decide +kernel
theorem dX6_tell_10 : decode mX6_tell.2.1 10 = .ok (.iconst 0, 1) := by decide +kernel
theorem dX6_tell_11 : decode mX6_tell.2.1 11 = .ok (.istore 8, 2) := by decide +kernel
theorem dX6_tell_13 : decode mX6_tell.2.1 13 = .ok (.iload 8, 2) := by decide +kernel
theorem dX6_tell_15 : decode mX6_tell.2.1 15 = .ok (.iload_n 2, 1) := by decide +kernel
theorem dX6_tell_16 : decode mX6_tell.2.1 16 = .ok (.if_icmp .ge 94, 3) := by decide +kernel
theorem dX6_tell_19 : decode mX6_tell.2.1 19 = .ok (.iload 7, 2) := by decide +kernel
theorem dX6_tell_21 : decode mX6_tell.2.1 21 = .ok (.iload_n 2, 1) := by decide +kernel
theorem dX6_tell_22 : decode mX6_tell.2.1 22 = .ok (.iload 8, 2) := by decide +kernel
theorem dX6_tell_24 : decode mX6_tell.2.1 24 = .ok (.isub, 1) := by decide +kernel
theorem dX6_tell_25 : decode mX6_tell.2.1 25 = .ok (.idiv, 1) := by decide +kernel
theorem dX6_tell_26 : decode mX6_tell.2.1 26 = .ok (.istore 7, 2) := by decide +kernel
theorem dX6_tell_28 : decode mX6_tell.2.1 28 = .ok (.iload 6, 2) := by decide +kernel
theorem dX6_tell_30 : decode mX6_tell.2.1 30 = .ok (.iload 7, 2) := by decide +kernel
theorem dX6_tell_32 : decode mX6_tell.2.1 32 = .ok (.idiv, 1) := by decide +kernel
theorem dX6_tell_33 : decode mX6_tell.2.1 33 = .ok (.istore 9, 2) := by decide +kernel
theorem dX6_tell_35 : decode mX6_tell.2.1 35 = .ok (.iload 6, 2) := by decide +kernel
theorem dX6_tell_37 : decode mX6_tell.2.1 37 = .ok (.iload 7, 2) := by decide +kernel
theorem dX6_tell_39 : decode mX6_tell.2.1 39 = .ok (.irem, 1) := by decide +kernel
theorem dX6_tell_40 : decode mX6_tell.2.1 40 = .ok (.istore 6, 2) := by decide +kernel
theorem dX6_tell_42 : decode mX6_tell.2.1 42 = .ok (.iconst 0, 1) := by decide +kernel
theorem dX6_tell_43 : decode mX6_tell.2.1 43 = .ok (.istore 10, 2) := by decide +kernel
theorem dX6_tell_45 : decode mX6_tell.2.1 45 = .ok (.iload_n 1, 1) := by decide +kernel
theorem dX6_tell_46 : decode mX6_tell.2.1 46 = .ok (.iload 5, 2) := by decide +kernel
theorem dX6_tell_48 : decode mX6_tell.2.1 48 = .ok (.iconst (-1), 1) := by decide +kernel
theorem dX6_tell_49 : decode mX6_tell.2.1 49 = .ok (.ixor, 1) := by decide +kernel
theorem dX6_tell_50 : decode mX6_tell.2.1 50 = .ok (.iand, 1) := by decide +kernel
theorem dX6_tell_51 : decode mX6_tell.2.1 51 = .ok (.iload 10, 2) := by decide +kernel
theorem dX6_tell_53 : decode mX6_tell.2.1 53 = .ok (.ishr, 1) := by decide +kernel
theorem dX6_tell_54 : decode mX6_tell.2.1 54 = .ok (.iconst 1, 1) := by decide +kernel
theorem dX6_tell_55 : decode mX6_tell.2.1 55 = .ok (.iand, 1) := by decide +kernel
theorem dX6_tell_56 : decode mX6_tell.2.1 56 = .ok (.ifCond .eq 8, 3) := by decide +kernel
theorem dX6_tell_59 : decode mX6_tell.2.1 59 = .ok (.iload 9, 2) := by decide +kernel
theorem dX6_tell_61 : decode mX6_tell.2.1 61 = .ok (.ifCond .le 25, 3) := by decide +kernel
theorem dX6_tell_64 : decode mX6_tell.2.1 64 = .ok (.iload 9, 2) := by decide +kernel
theorem dX6_tell_66 : decode mX6_tell.2.1 66 = .ok (.iload_n 1, 1) := by decide +kernel
theorem dX6_tell_67 : decode mX6_tell.2.1 67 = .ok (.iload 5, 2) := by decide +kernel
theorem dX6_tell_69 : decode mX6_tell.2.1 69 = .ok (.iconst (-1), 1) := by decide +kernel
theorem dX6_tell_70 : decode mX6_tell.2.1 70 = .ok (.ixor, 1) := by decide +kernel
theorem dX6_tell_71 : decode mX6_tell.2.1 71 = .ok (.iand, 1) := by decide +kernel
theorem dX6_tell_72 : decode mX6_tell.2.1 72 = .ok (.iload 10, 2) := by decide +kernel
theorem dX6_tell_74 : decode mX6_tell.2.1 74 = .ok (.ishr, 1) := by decide +kernel
theorem dX6_tell_75 : decode mX6_tell.2.1 75 = .ok (.iconst 1, 1) := by decide +kernel
theorem dX6_tell_76 : decode mX6_tell.2.1 76 = .ok (.iand, 1) := by decide +kernel
theorem dX6_tell_77 : decode mX6_tell.2.1 77 = .ok (.isub, 1) := by decide +kernel
theorem dX6_tell_78 : decode mX6_tell.2.1 78 = .ok (.istore 9, 2) := by decide +kernel
theorem dX6_tell_80 : decode mX6_tell.2.1 80 = .ok (.iinc 10 1, 3) := by decide +kernel
theorem dX6_tell_83 : decode mX6_tell.2.1 83 = .ok (.goto (-38), 3) := by decide +kernel
theorem dX6_tell_86 : decode mX6_tell.2.1 86 = .ok (.aload_n 0, 1) := by decide +kernel
theorem dX6_tell_87 : decode mX6_tell.2.1 87 = .ok (.getfield 62, 3) := by decide +kernel
theorem dX6_tell_90 : decode mX6_tell.2.1 90 = .ok (.iload 8, 2) := by decide +kernel
theorem dX6_tell_92 : decode mX6_tell.2.1 92 = .ok (.iload 10, 2) := by decide +kernel
theorem dX6_tell_94 : decode mX6_tell.2.1 94 = .ok (.iastore, 1) := by decide +kernel
theorem dX6_tell_95 : decode mX6_tell.2.1 95 = .ok (.iload 5, 2) := by decide +kernel
theorem dX6_tell_97 : decode mX6_tell.2.1 97 = .ok (.iconst 1, 1) := by decide +kernel
theorem dX6_tell_98 : decode mX6_tell.2.1 98 = .ok (.iload 10, 2) := by decide +kernel
theorem dX6_tell_100 : decode mX6_tell.2.1 100 = .ok (.ishl, 1) := by decide +kernel
theorem dX6_tell_101 : decode mX6_tell.2.1 101 = .ok (.ior, 1) := by decide +kernel
theorem dX6_tell_102 : decode mX6_tell.2.1 102 = .ok (.istore 5, 2) := by decide +kernel
theorem dX6_tell_104 : decode mX6_tell.2.1 104 = .ok (.iinc 8 1, 3) := by decide +kernel
theorem dX6_tell_107 : decode mX6_tell.2.1 107 = .ok (.goto (-94), 3) := by decide +kernel
theorem dX6_tell_110 : decode mX6_tell.2.1 110 = .ok (.return_, 1) := by decide +kernel
theorem dX6_planned_0 : decode mX6_planned.2.1 0 = .ok (.iload_n 1, 1) := by decide +kernel
theorem dX6_planned_1 : decode mX6_planned.2.1 1 = .ok (.iconst 0, 1) := by decide +kernel
theorem dX6_planned_2 : decode mX6_planned.2.1 2 = .ok (.aload_n 0, 1) := by decide +kernel
theorem dX6_planned_3 : decode mX6_planned.2.1 3 = .ok (.getfield 162, 3) := by decide +kernel
theorem dX6_planned_6 : decode mX6_planned.2.1 6 = .ok (.iconst 1, 1) := by decide +kernel
theorem dX6_planned_7 : decode mX6_planned.2.1 7 = .ok (.isub, 1) := by decide +kernel
theorem dX6_planned_8 : decode mX6_planned.2.1 8 = .ok (.invokestatic 129, 3) := by decide +kernel
theorem dX6_planned_11 : decode mX6_planned.2.1 11 = .ok (.ifCond .eq 12, 3) := by decide +kernel
theorem dX6_planned_14 : decode mX6_planned.2.1 14 = .ok (.iload_n 2, 1) := by decide +kernel
theorem dX6_planned_15 : decode mX6_planned.2.1 15 = .ok (.iconst 0, 1) := by decide +kernel
theorem dX6_planned_16 : decode mX6_planned.2.1 16 = .ok (.iconst 1, 1) := by decide +kernel
theorem dX6_planned_17 : decode mX6_planned.2.1 17 = .ok (.invokestatic 129, 3) := by decide +kernel
theorem dX6_planned_20 : decode mX6_planned.2.1 20 = .ok (.ifCond .ne 6, 3) := by decide +kernel
theorem dX6_planned_23 : decode mX6_planned.2.1 23 = .ok (.bipush (-3), 2) := by decide +kernel
theorem dX6_planned_25 : decode mX6_planned.2.1 25 = .ok (.ireturn, 1) := by decide +kernel
theorem dX6_planned_26 : decode mX6_planned.2.1 26 = .ok (.iload_n 2, 1) := by decide +kernel
theorem dX6_planned_27 : decode mX6_planned.2.1 27 = .ok (.ifCond .ne 12, 3) := by decide +kernel
theorem dX6_planned_30 : decode mX6_planned.2.1 30 = .ok (.aload_n 0, 1) := by decide +kernel
theorem dX6_planned_31 : decode mX6_planned.2.1 31 = .ok (.getfield 50, 3) := by decide +kernel
theorem dX6_planned_34 : decode mX6_planned.2.1 34 = .ok (.iload_n 1, 1) := by decide +kernel
theorem dX6_planned_35 : decode mX6_planned.2.1 35 = .ok (.iaload, 1) := by decide +kernel
theorem dX6_planned_36 : decode mX6_planned.2.1 36 = .ok (.goto 9, 3) := by decide +kernel
theorem dX6_planned_39 : decode mX6_planned.2.1 39 = .ok (.aload_n 0, 1) := by decide +kernel
theorem dX6_planned_40 : decode mX6_planned.2.1 40 = .ok (.getfield 53, 3) := by decide +kernel
theorem dX6_planned_43 : decode mX6_planned.2.1 43 = .ok (.iload_n 1, 1) := by decide +kernel
theorem dX6_planned_44 : decode mX6_planned.2.1 44 = .ok (.iaload, 1) := by decide +kernel
theorem dX6_planned_45 : decode mX6_planned.2.1 45 = .ok (.ireturn, 1) := by decide +kernel
theorem dX6_delays_0 : decode mX6_delays.2.1 0 = .ok (.aload_n 0, 1) := by decide +kernel
theorem dX6_delays_1 : decode mX6_delays.2.1 1 = .ok (.iload_n 1, 1) := by decide +kernel
theorem dX6_delays_2 : decode mX6_delays.2.1 2 = .ok (.invokevirtual 133, 3) := by decide +kernel
theorem dX6_delays_5 : decode mX6_delays.2.1 5 = .ok (.ifCond .ne 6, 3) := by decide +kernel
theorem dX6_delays_8 : decode mX6_delays.2.1 8 = .ok (.bipush (-2), 2) := by decide +kernel
theorem dX6_delays_10 : decode mX6_delays.2.1 10 = .ok (.ireturn, 1) := by decide +kernel
theorem dX6_delays_11 : decode mX6_delays.2.1 11 = .ok (.iconst 0, 1) := by decide +kernel
theorem dX6_delays_12 : decode mX6_delays.2.1 12 = .ok (.istore_n 2, 1) := by decide +kernel
theorem dX6_delays_13 : decode mX6_delays.2.1 13 = .ok (.iconst 0, 1) := by decide +kernel
theorem dX6_delays_14 : decode mX6_delays.2.1 14 = .ok (.istore_n 3, 1) := by decide +kernel
theorem dX6_delays_15 : decode mX6_delays.2.1 15 = .ok (.iconst 0, 1) := by decide +kernel
theorem dX6_delays_16 : decode mX6_delays.2.1 16 = .ok (.istore 4, 2) := by decide +kernel
theorem dX6_delays_18 : decode mX6_delays.2.1 18 = .ok (.iload 4, 2) := by decide +kernel
theorem dX6_delays_20 : decode mX6_delays.2.1 20 = .ok (.aload_n 0, 1) := by decide +kernel
theorem dX6_delays_21 : decode mX6_delays.2.1 21 = .ok (.getfield 162, 3) := by decide +kernel
theorem dX6_delays_24 : decode mX6_delays.2.1 24 = .ok (.if_icmp .ge 30, 3) := by decide +kernel
theorem dX6_delays_27 : decode mX6_delays.2.1 27 = .ok (.iload_n 3, 1) := by decide +kernel
theorem dX6_delays_28 : decode mX6_delays.2.1 28 = .ok (.ifCond .ne 14, 3) := by decide +kernel
theorem dX6_delays_31 : decode mX6_delays.2.1 31 = .ok (.aload_n 0, 1) := by decide +kernel
theorem dX6_delays_32 : decode mX6_delays.2.1 32 = .ok (.getfield 50, 3) := by decide +kernel
theorem dX6_delays_35 : decode mX6_delays.2.1 35 = .ok (.iload 4, 2) := by decide +kernel
theorem dX6_delays_37 : decode mX6_delays.2.1 37 = .ok (.iaload, 1) := by decide +kernel
theorem dX6_delays_38 : decode mX6_delays.2.1 38 = .ok (.iload_n 1, 1) := by decide +kernel
theorem dX6_delays_39 : decode mX6_delays.2.1 39 = .ok (.if_icmp .ne 7, 3) := by decide +kernel
theorem dX6_delays_42 : decode mX6_delays.2.1 42 = .ok (.iconst 1, 1) := by decide +kernel
theorem dX6_delays_43 : decode mX6_delays.2.1 43 = .ok (.goto 4, 3) := by decide +kernel
theorem dX6_delays_46 : decode mX6_delays.2.1 46 = .ok (.iconst 0, 1) := by decide +kernel
theorem dX6_delays_47 : decode mX6_delays.2.1 47 = .ok (.istore_n 3, 1) := by decide +kernel
theorem dX6_delays_48 : decode mX6_delays.2.1 48 = .ok (.iinc 4 1, 3) := by decide +kernel
theorem dX6_delays_51 : decode mX6_delays.2.1 51 = .ok (.goto (-33), 3) := by decide +kernel
theorem dX6_delays_54 : decode mX6_delays.2.1 54 = .ok (.iload_n 3, 1) := by decide +kernel
theorem dX6_delays_55 : decode mX6_delays.2.1 55 = .ok (.ifCond .ne 6, 3) := by decide +kernel
theorem dX6_delays_58 : decode mX6_delays.2.1 58 = .ok (.bipush (-4), 2) := by decide +kernel
theorem dX6_delays_60 : decode mX6_delays.2.1 60 = .ok (.ireturn, 1) := by decide +kernel
theorem dX6_delays_61 : decode mX6_delays.2.1 61 = .ok (.aload_n 0, 1) := by decide +kernel
theorem dX6_delays_62 : decode mX6_delays.2.1 62 = .ok (.getfield 62, 3) := by decide +kernel
theorem dX6_delays_65 : decode mX6_delays.2.1 65 = .ok (.iconst 0, 1) := by decide +kernel
theorem dX6_delays_66 : decode mX6_delays.2.1 66 = .ok (.iload_n 1, 1) := by decide +kernel
theorem dX6_delays_67 : decode mX6_delays.2.1 67 = .ok (.iastore, 1) := by decide +kernel
theorem dX6_delays_68 : decode mX6_delays.2.1 68 = .ok (.iconst 1, 1) := by decide +kernel
theorem dX6_delays_69 : decode mX6_delays.2.1 69 = .ok (.istore_n 2, 1) := by decide +kernel
theorem dX6_delays_70 : decode mX6_delays.2.1 70 = .ok (.iconst 0, 1) := by decide +kernel
theorem dX6_delays_71 : decode mX6_delays.2.1 71 = .ok (.istore 4, 2) := by decide +kernel
theorem dX6_delays_73 : decode mX6_delays.2.1 73 = .ok (.iload 4, 2) := by decide +kernel
theorem dX6_delays_75 : decode mX6_delays.2.1 75 = .ok (.aload_n 0, 1) := by decide +kernel
theorem dX6_delays_76 : decode mX6_delays.2.1 76 = .ok (.getfield 162, 3) := by decide +kernel
theorem dX6_delays_79 : decode mX6_delays.2.1 79 = .ok (.if_icmp .ge 36, 3) := by decide +kernel
theorem dX6_delays_82 : decode mX6_delays.2.1 82 = .ok (.aload_n 0, 1) := by decide +kernel
theorem dX6_delays_83 : decode mX6_delays.2.1 83 = .ok (.getfield 50, 3) := by decide +kernel
theorem dX6_delays_86 : decode mX6_delays.2.1 86 = .ok (.iload 4, 2) := by decide +kernel
theorem dX6_delays_88 : decode mX6_delays.2.1 88 = .ok (.iaload, 1) := by decide +kernel
theorem dX6_delays_89 : decode mX6_delays.2.1 89 = .ok (.iload_n 1, 1) := by decide +kernel
theorem dX6_delays_90 : decode mX6_delays.2.1 90 = .ok (.if_icmp .eq 19, 3) := by decide +kernel
theorem dX6_delays_93 : decode mX6_delays.2.1 93 = .ok (.aload_n 0, 1) := by decide +kernel
theorem dX6_delays_94 : decode mX6_delays.2.1 94 = .ok (.getfield 62, 3) := by decide +kernel
theorem dX6_delays_97 : decode mX6_delays.2.1 97 = .ok (.iload_n 2, 1) := by decide +kernel
theorem dX6_delays_98 : decode mX6_delays.2.1 98 = .ok (.aload_n 0, 1) := by decide +kernel
theorem dX6_delays_99 : decode mX6_delays.2.1 99 = .ok (.getfield 50, 3) := by decide +kernel
theorem dX6_delays_102 : decode mX6_delays.2.1 102 = .ok (.iload 4, 2) := by decide +kernel
theorem dX6_delays_104 : decode mX6_delays.2.1 104 = .ok (.iaload, 1) := by decide +kernel
theorem dX6_delays_105 : decode mX6_delays.2.1 105 = .ok (.iastore, 1) := by decide +kernel
theorem dX6_delays_106 : decode mX6_delays.2.1 106 = .ok (.iinc 2 1, 3) := by decide +kernel
theorem dX6_delays_109 : decode mX6_delays.2.1 109 = .ok (.iinc 4 1, 3) := by decide +kernel
theorem dX6_delays_112 : decode mX6_delays.2.1 112 = .ok (.goto (-39), 3) := by decide +kernel
theorem dX6_delays_115 : decode mX6_delays.2.1 115 = .ok (.aload_n 0, 1) := by decide +kernel
theorem dX6_delays_116 : decode mX6_delays.2.1 116 = .ok (.iload_n 2, 1) := by decide +kernel
theorem dX6_delays_117 : decode mX6_delays.2.1 117 = .ok (.invokevirtual 158, 3) := by decide +kernel
theorem dX6_delays_120 : decode mX6_delays.2.1 120 = .ok (.iconst 0, 1) := by decide +kernel
theorem dX6_delays_121 : decode mX6_delays.2.1 121 = .ok (.istore 4, 2) := by decide +kernel
theorem dX6_delays_123 : decode mX6_delays.2.1 123 = .ok (.iconst 0, 1) := by decide +kernel
theorem dX6_delays_124 : decode mX6_delays.2.1 124 = .ok (.istore 5, 2) := by decide +kernel
theorem dX6_delays_126 : decode mX6_delays.2.1 126 = .ok (.iload 5, 2) := by decide +kernel
theorem dX6_delays_128 : decode mX6_delays.2.1 128 = .ok (.iload_n 2, 1) := by decide +kernel
theorem dX6_delays_129 : decode mX6_delays.2.1 129 = .ok (.if_icmp .ge 76, 3) := by decide +kernel
theorem dX6_delays_132 : decode mX6_delays.2.1 132 = .ok (.iconst 0, 1) := by decide +kernel
theorem dX6_delays_133 : decode mX6_delays.2.1 133 = .ok (.istore 6, 2) := by decide +kernel
theorem dX6_delays_135 : decode mX6_delays.2.1 135 = .ok (.iload 6, 2) := by decide +kernel
theorem dX6_delays_137 : decode mX6_delays.2.1 137 = .ok (.iload_n 2, 1) := by decide +kernel
theorem dX6_delays_138 : decode mX6_delays.2.1 138 = .ok (.if_icmp .ge 61, 3) := by decide +kernel
theorem dX6_delays_141 : decode mX6_delays.2.1 141 = .ok (.iload 4, 2) := by decide +kernel
theorem dX6_delays_143 : decode mX6_delays.2.1 143 = .ok (.aload_n 0, 1) := by decide +kernel
theorem dX6_delays_144 : decode mX6_delays.2.1 144 = .ok (.getfield 50, 3) := by decide +kernel
theorem dX6_delays_147 : decode mX6_delays.2.1 147 = .ok (.iload 6, 2) := by decide +kernel
theorem dX6_delays_149 : decode mX6_delays.2.1 149 = .ok (.iaload, 1) := by decide +kernel
theorem dX6_delays_150 : decode mX6_delays.2.1 150 = .ok (.aload_n 0, 1) := by decide +kernel
theorem dX6_delays_151 : decode mX6_delays.2.1 151 = .ok (.getfield 62, 3) := by decide +kernel
theorem dX6_delays_154 : decode mX6_delays.2.1 154 = .ok (.iload 5, 2) := by decide +kernel
theorem dX6_delays_156 : decode mX6_delays.2.1 156 = .ok (.iaload, 1) := by decide +kernel
theorem dX6_delays_157 : decode mX6_delays.2.1 157 = .ok (.if_icmp .ne 32, 3) := by decide +kernel
theorem dX6_delays_160 : decode mX6_delays.2.1 160 = .ok (.aload_n 0, 1) := by decide +kernel
theorem dX6_delays_161 : decode mX6_delays.2.1 161 = .ok (.getfield 65, 3) := by decide +kernel
theorem dX6_delays_164 : decode mX6_delays.2.1 164 = .ok (.iload 5, 2) := by decide +kernel
theorem dX6_delays_166 : decode mX6_delays.2.1 166 = .ok (.iaload, 1) := by decide +kernel
theorem dX6_delays_167 : decode mX6_delays.2.1 167 = .ok (.aload_n 0, 1) := by decide +kernel
theorem dX6_delays_168 : decode mX6_delays.2.1 168 = .ok (.getfield 53, 3) := by decide +kernel
theorem dX6_delays_171 : decode mX6_delays.2.1 171 = .ok (.iload 6, 2) := by decide +kernel
theorem dX6_delays_173 : decode mX6_delays.2.1 173 = .ok (.iaload, 1) := by decide +kernel
theorem dX6_delays_174 : decode mX6_delays.2.1 174 = .ok (.if_icmp .le 15, 3) := by decide +kernel
theorem dX6_delays_177 : decode mX6_delays.2.1 177 = .ok (.iconst 1, 1) := by decide +kernel
theorem dX6_delays_178 : decode mX6_delays.2.1 178 = .ok (.aload_n 0, 1) := by decide +kernel
theorem dX6_delays_179 : decode mX6_delays.2.1 179 = .ok (.getfield 62, 3) := by decide +kernel
theorem dX6_delays_182 : decode mX6_delays.2.1 182 = .ok (.iload 5, 2) := by decide +kernel
theorem dX6_delays_184 : decode mX6_delays.2.1 184 = .ok (.iaload, 1) := by decide +kernel
theorem dX6_delays_185 : decode mX6_delays.2.1 185 = .ok (.ishl, 1) := by decide +kernel
theorem dX6_delays_186 : decode mX6_delays.2.1 186 = .ok (.goto 4, 3) := by decide +kernel
theorem dX6_delays_189 : decode mX6_delays.2.1 189 = .ok (.iconst 0, 1) := by decide +kernel
theorem dX6_delays_190 : decode mX6_delays.2.1 190 = .ok (.ior, 1) := by decide +kernel
theorem dX6_delays_191 : decode mX6_delays.2.1 191 = .ok (.istore 4, 2) := by decide +kernel
theorem dX6_delays_193 : decode mX6_delays.2.1 193 = .ok (.iinc 6 1, 3) := by decide +kernel
theorem dX6_delays_196 : decode mX6_delays.2.1 196 = .ok (.goto (-61), 3) := by decide +kernel
theorem dX6_delays_199 : decode mX6_delays.2.1 199 = .ok (.iinc 5 1, 3) := by decide +kernel
theorem dX6_delays_202 : decode mX6_delays.2.1 202 = .ok (.goto (-76), 3) := by decide +kernel
theorem dX6_delays_205 : decode mX6_delays.2.1 205 = .ok (.iload 4, 2) := by decide +kernel
theorem dX6_delays_207 : decode mX6_delays.2.1 207 = .ok (.ireturn, 1) := by decide +kernel
theorem dX6_width_0 : decode mX6_width.2.1 0 = .ok (.iload_n 1, 1) := by decide +kernel
theorem dX6_width_1 : decode mX6_width.2.1 1 = .ok (.iconst 0, 1) := by decide +kernel
theorem dX6_width_2 : decode mX6_width.2.1 2 = .ok (.bipush 26, 2) := by decide +kernel
theorem dX6_width_4 : decode mX6_width.2.1 4 = .ok (.invokestatic 129, 3) := by decide +kernel
theorem dX6_width_7 : decode mX6_width.2.1 7 = .ok (.ifCond .ne 6, 3) := by decide +kernel
theorem dX6_width_10 : decode mX6_width.2.1 10 = .ok (.bipush (-2), 2) := by decide +kernel
theorem dX6_width_12 : decode mX6_width.2.1 12 = .ok (.ireturn, 1) := by decide +kernel
theorem dX6_width_13 : decode mX6_width.2.1 13 = .ok (.iload_n 2, 1) := by decide +kernel
theorem dX6_width_14 : decode mX6_width.2.1 14 = .ok (.iload_n 1, 1) := by decide +kernel
theorem dX6_width_15 : decode mX6_width.2.1 15 = .ok (.ifCond .ne 7, 3) := by decide +kernel
theorem dX6_width_18 : decode mX6_width.2.1 18 = .ok (.iconst 0, 1) := by decide +kernel
theorem dX6_width_19 : decode mX6_width.2.1 19 = .ok (.goto 4, 3) := by decide +kernel
theorem dX6_width_22 : decode mX6_width.2.1 22 = .ok (.iconst 1, 1) := by decide +kernel
theorem dX6_width_23 : decode mX6_width.2.1 23 = .ok (.bipush 20, 2) := by decide +kernel
theorem dX6_width_25 : decode mX6_width.2.1 25 = .ok (.invokestatic 129, 3) := by decide +kernel
theorem dX6_width_28 : decode mX6_width.2.1 28 = .ok (.ifCond .ne 6, 3) := by decide +kernel
theorem dX6_width_31 : decode mX6_width.2.1 31 = .ok (.bipush (-3), 2) := by decide +kernel
theorem dX6_width_33 : decode mX6_width.2.1 33 = .ok (.ireturn, 1) := by decide +kernel
theorem dX6_width_34 : decode mX6_width.2.1 34 = .ok (.aload_n 0, 1) := by decide +kernel
theorem dX6_width_35 : decode mX6_width.2.1 35 = .ok (.getfield 71, 3) := by decide +kernel
theorem dX6_width_38 : decode mX6_width.2.1 38 = .ok (.iload_n 1, 1) := by decide +kernel
theorem dX6_width_39 : decode mX6_width.2.1 39 = .ok (.iaload, 1) := by decide +kernel
theorem dX6_width_40 : decode mX6_width.2.1 40 = .ok (.istore_n 3, 1) := by decide +kernel
theorem dX6_width_41 : decode mX6_width.2.1 41 = .ok (.aload_n 0, 1) := by decide +kernel
theorem dX6_width_42 : decode mX6_width.2.1 42 = .ok (.getfield 71, 3) := by decide +kernel
theorem dX6_width_45 : decode mX6_width.2.1 45 = .ok (.iload_n 1, 1) := by decide +kernel
theorem dX6_width_46 : decode mX6_width.2.1 46 = .ok (.iload_n 2, 1) := by decide +kernel
theorem dX6_width_47 : decode mX6_width.2.1 47 = .ok (.iastore, 1) := by decide +kernel
theorem dX6_width_48 : decode mX6_width.2.1 48 = .ok (.iload_n 3, 1) := by decide +kernel
theorem dX6_width_49 : decode mX6_width.2.1 49 = .ok (.ireturn, 1) := by decide +kernel
theorem dX6_sign_0 : decode mX6_sign.2.1 0 = .ok (.iload_n 1, 1) := by decide +kernel
theorem dX6_sign_1 : decode mX6_sign.2.1 1 = .ok (.iconst 0, 1) := by decide +kernel
theorem dX6_sign_2 : decode mX6_sign.2.1 2 = .ok (.bipush 26, 2) := by decide +kernel
theorem dX6_sign_4 : decode mX6_sign.2.1 4 = .ok (.invokestatic 129, 3) := by decide +kernel
theorem dX6_sign_7 : decode mX6_sign.2.1 7 = .ok (.ifCond .ne 6, 3) := by decide +kernel
theorem dX6_sign_10 : decode mX6_sign.2.1 10 = .ok (.bipush (-2), 2) := by decide +kernel
theorem dX6_sign_12 : decode mX6_sign.2.1 12 = .ok (.ireturn, 1) := by decide +kernel
theorem dX6_sign_13 : decode mX6_sign.2.1 13 = .ok (.aload_n 0, 1) := by decide +kernel
theorem dX6_sign_14 : decode mX6_sign.2.1 14 = .ok (.getfield 165, 3) := by decide +kernel
theorem dX6_sign_17 : decode mX6_sign.2.1 17 = .ok (.bipush 40, 2) := by decide +kernel
theorem dX6_sign_19 : decode mX6_sign.2.1 19 = .ok (.if_icmp .ne 6, 3) := by decide +kernel
theorem dX6_sign_22 : decode mX6_sign.2.1 22 = .ok (.bipush (-6), 2) := by decide +kernel
theorem dX6_sign_24 : decode mX6_sign.2.1 24 = .ok (.ireturn, 1) := by decide +kernel
theorem dX6_sign_25 : decode mX6_sign.2.1 25 = .ok (.aload_n 0, 1) := by decide +kernel
theorem dX6_sign_26 : decode mX6_sign.2.1 26 = .ok (.getfield 74, 3) := by decide +kernel
theorem dX6_sign_29 : decode mX6_sign.2.1 29 = .ok (.aload_n 0, 1) := by decide +kernel
theorem dX6_sign_30 : decode mX6_sign.2.1 30 = .ok (.getfield 165, 3) := by decide +kernel
theorem dX6_sign_33 : decode mX6_sign.2.1 33 = .ok (.iload_n 1, 1) := by decide +kernel
theorem dX6_sign_34 : decode mX6_sign.2.1 34 = .ok (.iastore, 1) := by decide +kernel
theorem dX6_sign_35 : decode mX6_sign.2.1 35 = .ok (.aload_n 0, 1) := by decide +kernel
theorem dX6_sign_36 : decode mX6_sign.2.1 36 = .ok (.dup, 1) := by decide +kernel
theorem dX6_sign_37 : decode mX6_sign.2.1 37 = .ok (.getfield 165, 3) := by decide +kernel
theorem dX6_sign_40 : decode mX6_sign.2.1 40 = .ok (.iconst 1, 1) := by decide +kernel
theorem dX6_sign_41 : decode mX6_sign.2.1 41 = .ok (.iadd, 1) := by decide +kernel
theorem dX6_sign_42 : decode mX6_sign.2.1 42 = .ok (.putfield 165, 3) := by decide +kernel
theorem dX6_sign_45 : decode mX6_sign.2.1 45 = .ok (.aload_n 0, 1) := by decide +kernel
theorem dX6_sign_46 : decode mX6_sign.2.1 46 = .ok (.getfield 165, 3) := by decide +kernel
theorem dX6_sign_49 : decode mX6_sign.2.1 49 = .ok (.ireturn, 1) := by decide +kernel
theorem dX6_wipe_0 : decode mX6_wipe.2.1 0 = .ok (.aload_n 0, 1) := by decide +kernel
theorem dX6_wipe_1 : decode mX6_wipe.2.1 1 = .ok (.getfield 165, 3) := by decide +kernel
theorem dX6_wipe_4 : decode mX6_wipe.2.1 4 = .ok (.istore_n 1, 1) := by decide +kernel
theorem dX6_wipe_5 : decode mX6_wipe.2.1 5 = .ok (.aload_n 0, 1) := by decide +kernel
theorem dX6_wipe_6 : decode mX6_wipe.2.1 6 = .ok (.iconst 0, 1) := by decide +kernel
theorem dX6_wipe_7 : decode mX6_wipe.2.1 7 = .ok (.putfield 165, 3) := by decide +kernel
theorem dX6_wipe_10 : decode mX6_wipe.2.1 10 = .ok (.iload_n 1, 1) := by decide +kernel
theorem dX6_wipe_11 : decode mX6_wipe.2.1 11 = .ok (.ireturn, 1) := by decide +kernel
theorem dX6_findWords_0 : decode mX6_findWords.2.1 0 = .ok (.aload_n 0, 1) := by decide +kernel
theorem dX6_findWords_1 : decode mX6_findWords.2.1 1 = .ok (.iconst 0, 1) := by decide +kernel
theorem dX6_findWords_2 : decode mX6_findWords.2.1 2 = .ok (.putfield 168, 3) := by decide +kernel
theorem dX6_findWords_5 : decode mX6_findWords.2.1 5 = .ok (.iconst 0, 1) := by decide +kernel
theorem dX6_findWords_6 : decode mX6_findWords.2.1 6 = .ok (.istore_n 1, 1) := by decide +kernel
theorem dX6_findWords_7 : decode mX6_findWords.2.1 7 = .ok (.iload_n 1, 1) := by decide +kernel
theorem dX6_findWords_8 : decode mX6_findWords.2.1 8 = .ok (.aload_n 0, 1) := by decide +kernel
theorem dX6_findWords_9 : decode mX6_findWords.2.1 9 = .ok (.getfield 165, 3) := by decide +kernel
theorem dX6_findWords_12 : decode mX6_findWords.2.1 12 = .ok (.if_icmp .ge 78, 3) := by decide +kernel
theorem dX6_findWords_15 : decode mX6_findWords.2.1 15 = .ok (.aload_n 0, 1) := by decide +kernel
theorem dX6_findWords_16 : decode mX6_findWords.2.1 16 = .ok (.getfield 74, 3) := by decide +kernel
theorem dX6_findWords_19 : decode mX6_findWords.2.1 19 = .ok (.iload_n 1, 1) := by decide +kernel
theorem dX6_findWords_20 : decode mX6_findWords.2.1 20 = .ok (.iaload, 1) := by decide +kernel
theorem dX6_findWords_21 : decode mX6_findWords.2.1 21 = .ok (.ifCond .le 63, 3) := by decide +kernel
theorem dX6_findWords_24 : decode mX6_findWords.2.1 24 = .ok (.iload_n 1, 1) := by decide +kernel
theorem dX6_findWords_25 : decode mX6_findWords.2.1 25 = .ok (.ifCond .eq 14, 3) := by decide +kernel
theorem dX6_findWords_28 : decode mX6_findWords.2.1 28 = .ok (.aload_n 0, 1) := by decide +kernel
theorem dX6_findWords_29 : decode mX6_findWords.2.1 29 = .ok (.getfield 74, 3) := by decide +kernel
theorem dX6_findWords_32 : decode mX6_findWords.2.1 32 = .ok (.iload_n 1, 1) := by decide +kernel
theorem dX6_findWords_33 : decode mX6_findWords.2.1 33 = .ok (.iconst 1, 1) := by decide +kernel
theorem dX6_findWords_34 : decode mX6_findWords.2.1 34 = .ok (.isub, 1) := by decide +kernel
theorem dX6_findWords_35 : decode mX6_findWords.2.1 35 = .ok (.iaload, 1) := by decide +kernel
theorem dX6_findWords_36 : decode mX6_findWords.2.1 36 = .ok (.ifCond .ne 23, 3) := by decide +kernel
theorem dX6_findWords_39 : decode mX6_findWords.2.1 39 = .ok (.aload_n 0, 1) := by decide +kernel
theorem dX6_findWords_40 : decode mX6_findWords.2.1 40 = .ok (.getfield 77, 3) := by decide +kernel
theorem dX6_findWords_43 : decode mX6_findWords.2.1 43 = .ok (.aload_n 0, 1) := by decide +kernel
theorem dX6_findWords_44 : decode mX6_findWords.2.1 44 = .ok (.getfield 168, 3) := by decide +kernel
theorem dX6_findWords_47 : decode mX6_findWords.2.1 47 = .ok (.iconst 0, 1) := by decide +kernel
theorem dX6_findWords_48 : decode mX6_findWords.2.1 48 = .ok (.iastore, 1) := by decide +kernel
theorem dX6_findWords_49 : decode mX6_findWords.2.1 49 = .ok (.aload_n 0, 1) := by decide +kernel
theorem dX6_findWords_50 : decode mX6_findWords.2.1 50 = .ok (.dup, 1) := by decide +kernel
theorem dX6_findWords_51 : decode mX6_findWords.2.1 51 = .ok (.getfield 168, 3) := by decide +kernel
theorem dX6_findWords_54 : decode mX6_findWords.2.1 54 = .ok (.iconst 1, 1) := by decide +kernel
theorem dX6_findWords_55 : decode mX6_findWords.2.1 55 = .ok (.iadd, 1) := by decide +kernel
theorem dX6_findWords_56 : decode mX6_findWords.2.1 56 = .ok (.putfield 168, 3) := by decide +kernel
theorem dX6_findWords_59 : decode mX6_findWords.2.1 59 = .ok (.aload_n 0, 1) := by decide +kernel
theorem dX6_findWords_60 : decode mX6_findWords.2.1 60 = .ok (.getfield 77, 3) := by decide +kernel
theorem dX6_findWords_63 : decode mX6_findWords.2.1 63 = .ok (.aload_n 0, 1) := by decide +kernel
theorem dX6_findWords_64 : decode mX6_findWords.2.1 64 = .ok (.getfield 168, 3) := by decide +kernel
theorem dX6_findWords_67 : decode mX6_findWords.2.1 67 = .ok (.iconst 1, 1) := by decide +kernel
theorem dX6_findWords_68 : decode mX6_findWords.2.1 68 = .ok (.isub, 1) := by decide +kernel
theorem dX6_findWords_69 : decode mX6_findWords.2.1 69 = .ok (.dup2, 1) := by decide +kernel
theorem dX6_findWords_70 : decode mX6_findWords.2.1 70 = .ok (.iaload, 1) := by decide +kernel
theorem dX6_findWords_71 : decode mX6_findWords.2.1 71 = .ok (.aload_n 0, 1) := by decide +kernel
theorem dX6_findWords_72 : decode mX6_findWords.2.1 72 = .ok (.getfield 71, 3) := by decide +kernel
theorem dX6_findWords_75 : decode mX6_findWords.2.1 75 = .ok (.aload_n 0, 1) := by decide +kernel
theorem dX6_findWords_76 : decode mX6_findWords.2.1 76 = .ok (.getfield 74, 3) := by decide +kernel
theorem dX6_findWords_79 : decode mX6_findWords.2.1 79 = .ok (.iload_n 1, 1) := by decide +kernel
theorem dX6_findWords_80 : decode mX6_findWords.2.1 80 = .ok (.iaload, 1) := by decide +kernel
theorem dX6_findWords_81 : decode mX6_findWords.2.1 81 = .ok (.iaload, 1) := by decide +kernel
theorem dX6_findWords_82 : decode mX6_findWords.2.1 82 = .ok (.iadd, 1) := by decide +kernel
theorem dX6_findWords_83 : decode mX6_findWords.2.1 83 = .ok (.iastore, 1) := by decide +kernel
theorem dX6_findWords_84 : decode mX6_findWords.2.1 84 = .ok (.iinc 1 1, 3) := by decide +kernel
theorem dX6_findWords_87 : decode mX6_findWords.2.1 87 = .ok (.goto (-80), 3) := by decide +kernel
theorem dX6_findWords_90 : decode mX6_findWords.2.1 90 = .ok (.return_, 1) := by decide +kernel
theorem dX6_wideOf_0 : decode mX6_wideOf.2.1 0 = .ok (.iload_n 2, 1) := by decide +kernel
theorem dX6_wideOf_1 : decode mX6_wideOf.2.1 1 = .ok (.iconst 1, 1) := by decide +kernel
theorem dX6_wideOf_2 : decode mX6_wideOf.2.1 2 = .ok (.isub, 1) := by decide +kernel
theorem dX6_wideOf_3 : decode mX6_wideOf.2.1 3 = .ok (.aload_n 0, 1) := by decide +kernel
theorem dX6_wideOf_4 : decode mX6_wideOf.2.1 4 = .ok (.getfield 71, 3) := by decide +kernel
theorem dX6_wideOf_7 : decode mX6_wideOf.2.1 7 = .ok (.iconst 0, 1) := by decide +kernel
theorem dX6_wideOf_8 : decode mX6_wideOf.2.1 8 = .ok (.iaload, 1) := by decide +kernel
theorem dX6_wideOf_9 : decode mX6_wideOf.2.1 9 = .ok (.imul, 1) := by decide +kernel
theorem dX6_wideOf_10 : decode mX6_wideOf.2.1 10 = .ok (.istore_n 3, 1) := by decide +kernel
theorem dX6_wideOf_11 : decode mX6_wideOf.2.1 11 = .ok (.iload_n 1, 1) := by decide +kernel
theorem dX6_wideOf_12 : decode mX6_wideOf.2.1 12 = .ok (.istore 4, 2) := by decide +kernel
theorem dX6_wideOf_14 : decode mX6_wideOf.2.1 14 = .ok (.iload 4, 2) := by decide +kernel
theorem dX6_wideOf_16 : decode mX6_wideOf.2.1 16 = .ok (.iload_n 1, 1) := by decide +kernel
theorem dX6_wideOf_17 : decode mX6_wideOf.2.1 17 = .ok (.iload_n 2, 1) := by decide +kernel
theorem dX6_wideOf_18 : decode mX6_wideOf.2.1 18 = .ok (.iadd, 1) := by decide +kernel
theorem dX6_wideOf_19 : decode mX6_wideOf.2.1 19 = .ok (.if_icmp .ge 19, 3) := by decide +kernel
theorem dX6_wideOf_22 : decode mX6_wideOf.2.1 22 = .ok (.iload_n 3, 1) := by decide +kernel
theorem dX6_wideOf_23 : decode mX6_wideOf.2.1 23 = .ok (.aload_n 0, 1) := by decide +kernel
theorem dX6_wideOf_24 : decode mX6_wideOf.2.1 24 = .ok (.getfield 77, 3) := by decide +kernel
theorem dX6_wideOf_27 : decode mX6_wideOf.2.1 27 = .ok (.iload 4, 2) := by decide +kernel
theorem dX6_wideOf_29 : decode mX6_wideOf.2.1 29 = .ok (.iaload, 1) := by decide +kernel
theorem dX6_wideOf_30 : decode mX6_wideOf.2.1 30 = .ok (.iadd, 1) := by decide +kernel
theorem dX6_wideOf_31 : decode mX6_wideOf.2.1 31 = .ok (.istore_n 3, 1) := by decide +kernel
theorem dX6_wideOf_32 : decode mX6_wideOf.2.1 32 = .ok (.iinc 4 1, 3) := by decide +kernel
theorem dX6_wideOf_35 : decode mX6_wideOf.2.1 35 = .ok (.goto (-21), 3) := by decide +kernel
theorem dX6_wideOf_38 : decode mX6_wideOf.2.1 38 = .ok (.iload_n 3, 1) := by decide +kernel
theorem dX6_wideOf_39 : decode mX6_wideOf.2.1 39 = .ok (.ireturn, 1) := by decide +kernel
theorem dX6_through_0 : decode mX6_through.2.1 0 = .ok (.iload 4, 2) := by decide +kernel
theorem dX6_through_2 : decode mX6_through.2.1 2 = .ok (.aload_n 0, 1) := by decide +kernel
theorem dX6_through_3 : decode mX6_through.2.1 3 = .ok (.iload_n 1, 1) := by decide +kernel
theorem dX6_through_4 : decode mX6_through.2.1 4 = .ok (.iload_n 2, 1) := by decide +kernel
theorem dX6_through_5 : decode mX6_through.2.1 5 = .ok (.invokevirtual 171, 3) := by decide +kernel
theorem dX6_through_8 : decode mX6_through.2.1 8 = .ok (.isub, 1) := by decide +kernel
theorem dX6_through_9 : decode mX6_through.2.1 9 = .ok (.istore 5, 2) := by decide +kernel
theorem dX6_through_11 : decode mX6_through.2.1 11 = .ok (.aload_n 0, 1) := by decide +kernel
theorem dX6_through_12 : decode mX6_through.2.1 12 = .ok (.getfield 80, 3) := by decide +kernel
theorem dX6_through_15 : decode mX6_through.2.1 15 = .ok (.bipush 21, 2) := by decide +kernel
theorem dX6_through_17 : decode mX6_through.2.1 17 = .ok (.iload_n 3, 1) := by decide +kernel
theorem dX6_through_18 : decode mX6_through.2.1 18 = .ok (.iconst 1, 1) := by decide +kernel
theorem dX6_through_19 : decode mX6_through.2.1 19 = .ok (.isub, 1) := by decide +kernel
theorem dX6_through_20 : decode mX6_through.2.1 20 = .ok (.imul, 1) := by decide +kernel
theorem dX6_through_21 : decode mX6_through.2.1 21 = .ok (.iload_n 1, 1) := by decide +kernel
theorem dX6_through_22 : decode mX6_through.2.1 22 = .ok (.iadd, 1) := by decide +kernel
theorem dX6_through_23 : decode mX6_through.2.1 23 = .ok (.iload_n 2, 1) := by decide +kernel
theorem dX6_through_24 : decode mX6_through.2.1 24 = .ok (.iadd, 1) := by decide +kernel
theorem dX6_through_25 : decode mX6_through.2.1 25 = .ok (.iaload, 1) := by decide +kernel
theorem dX6_through_26 : decode mX6_through.2.1 26 = .ok (.istore 6, 2) := by decide +kernel
theorem dX6_through_28 : decode mX6_through.2.1 28 = .ok (.iload 5, 2) := by decide +kernel
theorem dX6_through_30 : decode mX6_through.2.1 30 = .ok (.ifCond .lt 9, 3) := by decide +kernel
theorem dX6_through_33 : decode mX6_through.2.1 33 = .ok (.iload 6, 2) := by decide +kernel
theorem dX6_through_35 : decode mX6_through.2.1 35 = .ok (.iconst (-1), 1) := by decide +kernel
theorem dX6_through_36 : decode mX6_through.2.1 36 = .ok (.if_icmp .ne 7, 3) := by decide +kernel
theorem dX6_through_39 : decode mX6_through.2.1 39 = .ok (.iconst (-1), 1) := by decide +kernel
theorem dX6_through_40 : decode mX6_through.2.1 40 = .ok (.goto 11, 3) := by decide +kernel
theorem dX6_through_43 : decode mX6_through.2.1 43 = .ok (.iload 5, 2) := by decide +kernel
theorem dX6_through_45 : decode mX6_through.2.1 45 = .ok (.iload 5, 2) := by decide +kernel
theorem dX6_through_47 : decode mX6_through.2.1 47 = .ok (.imul, 1) := by decide +kernel
theorem dX6_through_48 : decode mX6_through.2.1 48 = .ok (.iload 6, 2) := by decide +kernel
theorem dX6_through_50 : decode mX6_through.2.1 50 = .ok (.iadd, 1) := by decide +kernel
theorem dX6_through_51 : decode mX6_through.2.1 51 = .ok (.ireturn, 1) := by decide +kernel
theorem dX6_broken_0 : decode mX6_broken.2.1 0 = .ok (.iload_n 1, 1) := by decide +kernel
theorem dX6_broken_1 : decode mX6_broken.2.1 1 = .ok (.iconst 1, 1) := by decide +kernel
theorem dX6_broken_2 : decode mX6_broken.2.1 2 = .ok (.sipush 400, 3) := by decide +kernel
theorem dX6_broken_5 : decode mX6_broken.2.1 5 = .ok (.invokestatic 129, 3) := by decide +kernel
theorem dX6_broken_8 : decode mX6_broken.2.1 8 = .ok (.ifCond .eq 13, 3) := by decide +kernel
theorem dX6_broken_11 : decode mX6_broken.2.1 11 = .ok (.iload_n 2, 1) := by decide +kernel
theorem dX6_broken_12 : decode mX6_broken.2.1 12 = .ok (.iconst 1, 1) := by decide +kernel
theorem dX6_broken_13 : decode mX6_broken.2.1 13 = .ok (.bipush 6, 2) := by decide +kernel
theorem dX6_broken_15 : decode mX6_broken.2.1 15 = .ok (.invokestatic 129, 3) := by decide +kernel
theorem dX6_broken_18 : decode mX6_broken.2.1 18 = .ok (.ifCond .ne 6, 3) := by decide +kernel
theorem dX6_broken_21 : decode mX6_broken.2.1 21 = .ok (.bipush (-3), 2) := by decide +kernel
theorem dX6_broken_23 : decode mX6_broken.2.1 23 = .ok (.ireturn, 1) := by decide +kernel
theorem dX6_broken_24 : decode mX6_broken.2.1 24 = .ok (.aload_n 0, 1) := by decide +kernel
theorem dX6_broken_25 : decode mX6_broken.2.1 25 = .ok (.invokevirtual 175, 3) := by decide +kernel
theorem dX6_broken_28 : decode mX6_broken.2.1 28 = .ok (.aload_n 0, 1) := by decide +kernel
theorem dX6_broken_29 : decode mX6_broken.2.1 29 = .ok (.getfield 168, 3) := by decide +kernel
theorem dX6_broken_32 : decode mX6_broken.2.1 32 = .ok (.ifCond .ne 6, 3) := by decide +kernel
theorem dX6_broken_35 : decode mX6_broken.2.1 35 = .ok (.bipush (-4), 2) := by decide +kernel
theorem dX6_broken_37 : decode mX6_broken.2.1 37 = .ok (.ireturn, 1) := by decide +kernel
theorem dX6_broken_38 : decode mX6_broken.2.1 38 = .ok (.iconst 0, 1) := by decide +kernel
theorem dX6_broken_39 : decode mX6_broken.2.1 39 = .ok (.istore_n 3, 1) := by decide +kernel
theorem dX6_broken_40 : decode mX6_broken.2.1 40 = .ok (.iload_n 3, 1) := by decide +kernel
theorem dX6_broken_41 : decode mX6_broken.2.1 41 = .ok (.iload_n 2, 1) := by decide +kernel
theorem dX6_broken_42 : decode mX6_broken.2.1 42 = .ok (.if_icmp .gt 125, 3) := by decide +kernel
theorem dX6_broken_45 : decode mX6_broken.2.1 45 = .ok (.aload_n 0, 1) := by decide +kernel
theorem dX6_broken_46 : decode mX6_broken.2.1 46 = .ok (.getfield 168, 3) := by decide +kernel
theorem dX6_broken_49 : decode mX6_broken.2.1 49 = .ok (.istore 4, 2) := by decide +kernel
theorem dX6_broken_51 : decode mX6_broken.2.1 51 = .ok (.iload 4, 2) := by decide +kernel
theorem dX6_broken_53 : decode mX6_broken.2.1 53 = .ok (.ifCond .lt 108, 3) := by decide +kernel
theorem dX6_broken_56 : decode mX6_broken.2.1 56 = .ok (.iload_n 3, 1) := by decide +kernel
theorem dX6_broken_57 : decode mX6_broken.2.1 57 = .ok (.ifCond .ne 16, 3) := by decide +kernel
theorem dX6_broken_60 : decode mX6_broken.2.1 60 = .ok (.iload 4, 2) := by decide +kernel
theorem dX6_broken_62 : decode mX6_broken.2.1 62 = .ok (.aload_n 0, 1) := by decide +kernel
theorem dX6_broken_63 : decode mX6_broken.2.1 63 = .ok (.getfield 168, 3) := by decide +kernel
theorem dX6_broken_66 : decode mX6_broken.2.1 66 = .ok (.if_icmp .ne 7, 3) := by decide +kernel
theorem dX6_broken_69 : decode mX6_broken.2.1 69 = .ok (.iconst 0, 1) := by decide +kernel
theorem dX6_broken_70 : decode mX6_broken.2.1 70 = .ok (.goto 4, 3) := by decide +kernel
theorem dX6_broken_73 : decode mX6_broken.2.1 73 = .ok (.iconst (-1), 1) := by decide +kernel
theorem dX6_broken_74 : decode mX6_broken.2.1 74 = .ok (.istore 5, 2) := by decide +kernel
theorem dX6_broken_76 : decode mX6_broken.2.1 76 = .ok (.iconst 1, 1) := by decide +kernel
theorem dX6_broken_77 : decode mX6_broken.2.1 77 = .ok (.istore 6, 2) := by decide +kernel
theorem dX6_broken_79 : decode mX6_broken.2.1 79 = .ok (.iload 6, 2) := by decide +kernel
theorem dX6_broken_81 : decode mX6_broken.2.1 81 = .ok (.aload_n 0, 1) := by decide +kernel
theorem dX6_broken_82 : decode mX6_broken.2.1 82 = .ok (.getfield 168, 3) := by decide +kernel
theorem dX6_broken_85 : decode mX6_broken.2.1 85 = .ok (.iload 4, 2) := by decide +kernel
theorem dX6_broken_87 : decode mX6_broken.2.1 87 = .ok (.isub, 1) := by decide +kernel
theorem dX6_broken_88 : decode mX6_broken.2.1 88 = .ok (.if_icmp .gt 53, 3) := by decide +kernel
theorem dX6_broken_91 : decode mX6_broken.2.1 91 = .ok (.iload_n 3, 1) := by decide +kernel
theorem dX6_broken_92 : decode mX6_broken.2.1 92 = .ok (.ifCond .le 49, 3) := by decide +kernel
theorem dX6_broken_95 : decode mX6_broken.2.1 95 = .ok (.aload_n 0, 1) := by decide +kernel
theorem dX6_broken_96 : decode mX6_broken.2.1 96 = .ok (.iload 4, 2) := by decide +kernel
theorem dX6_broken_98 : decode mX6_broken.2.1 98 = .ok (.iload 6, 2) := by decide +kernel
theorem dX6_broken_100 : decode mX6_broken.2.1 100 = .ok (.iload_n 3, 1) := by decide +kernel
theorem dX6_broken_101 : decode mX6_broken.2.1 101 = .ok (.iload_n 1, 1) := by decide +kernel
theorem dX6_broken_102 : decode mX6_broken.2.1 102 = .ok (.invokevirtual 178, 3) := by decide +kernel
theorem dX6_broken_105 : decode mX6_broken.2.1 105 = .ok (.istore 7, 2) := by decide +kernel
theorem dX6_broken_107 : decode mX6_broken.2.1 107 = .ok (.iload 7, 2) := by decide +kernel
theorem dX6_broken_109 : decode mX6_broken.2.1 109 = .ok (.iconst (-1), 1) := by decide +kernel
theorem dX6_broken_110 : decode mX6_broken.2.1 110 = .ok (.if_icmp .eq 21, 3) := by decide +kernel
theorem dX6_broken_113 : decode mX6_broken.2.1 113 = .ok (.iload 5, 2) := by decide +kernel
theorem dX6_broken_115 : decode mX6_broken.2.1 115 = .ok (.iconst (-1), 1) := by decide +kernel
theorem dX6_broken_116 : decode mX6_broken.2.1 116 = .ok (.if_icmp .eq 10, 3) := by decide +kernel
theorem dX6_broken_119 : decode mX6_broken.2.1 119 = .ok (.iload 7, 2) := by decide +kernel
theorem dX6_broken_121 : decode mX6_broken.2.1 121 = .ok (.iload 5, 2) := by decide +kernel
theorem dX6_broken_123 : decode mX6_broken.2.1 123 = .ok (.if_icmp .ge 8, 3) := by decide +kernel
theorem dX6_broken_126 : decode mX6_broken.2.1 126 = .ok (.iload 7, 2) := by decide +kernel
theorem dX6_broken_128 : decode mX6_broken.2.1 128 = .ok (.goto 5, 3) := by decide +kernel
theorem dX6_broken_131 : decode mX6_broken.2.1 131 = .ok (.iload 5, 2) := by decide +kernel
theorem dX6_broken_133 : decode mX6_broken.2.1 133 = .ok (.istore 5, 2) := by decide +kernel
theorem dX6_broken_135 : decode mX6_broken.2.1 135 = .ok (.iinc 6 1, 3) := by decide +kernel
theorem dX6_broken_138 : decode mX6_broken.2.1 138 = .ok (.goto (-59), 3) := by decide +kernel
theorem dX6_broken_141 : decode mX6_broken.2.1 141 = .ok (.aload_n 0, 1) := by decide +kernel
theorem dX6_broken_142 : decode mX6_broken.2.1 142 = .ok (.getfield 80, 3) := by decide +kernel
theorem dX6_broken_145 : decode mX6_broken.2.1 145 = .ok (.bipush 21, 2) := by decide +kernel
theorem dX6_broken_147 : decode mX6_broken.2.1 147 = .ok (.iload_n 3, 1) := by decide +kernel
theorem dX6_broken_148 : decode mX6_broken.2.1 148 = .ok (.imul, 1) := by decide +kernel
theorem dX6_broken_149 : decode mX6_broken.2.1 149 = .ok (.iload 4, 2) := by decide +kernel
theorem dX6_broken_151 : decode mX6_broken.2.1 151 = .ok (.iadd, 1) := by decide +kernel
theorem dX6_broken_152 : decode mX6_broken.2.1 152 = .ok (.iload 5, 2) := by decide +kernel
theorem dX6_broken_154 : decode mX6_broken.2.1 154 = .ok (.iastore, 1) := by decide +kernel
theorem dX6_broken_155 : decode mX6_broken.2.1 155 = .ok (.iinc 4 (-1), 3) := by decide +kernel
theorem dX6_broken_158 : decode mX6_broken.2.1 158 = .ok (.goto (-107), 3) := by decide +kernel
theorem dX6_broken_161 : decode mX6_broken.2.1 161 = .ok (.iinc 3 1, 3) := by decide +kernel
theorem dX6_broken_164 : decode mX6_broken.2.1 164 = .ok (.goto (-124), 3) := by decide +kernel
theorem dX6_broken_167 : decode mX6_broken.2.1 167 = .ok (.aload_n 0, 1) := by decide +kernel
theorem dX6_broken_168 : decode mX6_broken.2.1 168 = .ok (.iconst 0, 1) := by decide +kernel
theorem dX6_broken_169 : decode mX6_broken.2.1 169 = .ok (.putfield 182, 3) := by decide +kernel
theorem dX6_broken_172 : decode mX6_broken.2.1 172 = .ok (.iconst (-1), 1) := by decide +kernel
theorem dX6_broken_173 : decode mX6_broken.2.1 173 = .ok (.istore_n 3, 1) := by decide +kernel
theorem dX6_broken_174 : decode mX6_broken.2.1 174 = .ok (.iconst 1, 1) := by decide +kernel
theorem dX6_broken_175 : decode mX6_broken.2.1 175 = .ok (.istore 4, 2) := by decide +kernel
theorem dX6_broken_177 : decode mX6_broken.2.1 177 = .ok (.iload 4, 2) := by decide +kernel
theorem dX6_broken_179 : decode mX6_broken.2.1 179 = .ok (.iload_n 2, 1) := by decide +kernel
theorem dX6_broken_180 : decode mX6_broken.2.1 180 = .ok (.if_icmp .gt 47, 3) := by decide +kernel
theorem dX6_broken_183 : decode mX6_broken.2.1 183 = .ok (.aload_n 0, 1) := by decide +kernel
theorem dX6_broken_184 : decode mX6_broken.2.1 184 = .ok (.getfield 80, 3) := by decide +kernel
theorem dX6_broken_187 : decode mX6_broken.2.1 187 = .ok (.bipush 21, 2) := by decide +kernel
theorem dX6_broken_189 : decode mX6_broken.2.1 189 = .ok (.iload 4, 2) := by decide +kernel
theorem dX6_broken_191 : decode mX6_broken.2.1 191 = .ok (.imul, 1) := by decide +kernel
theorem dX6_broken_192 : decode mX6_broken.2.1 192 = .ok (.iaload, 1) := by decide +kernel
theorem dX6_broken_193 : decode mX6_broken.2.1 193 = .ok (.istore 5, 2) := by decide +kernel
theorem dX6_broken_195 : decode mX6_broken.2.1 195 = .ok (.iload 5, 2) := by decide +kernel
theorem dX6_broken_197 : decode mX6_broken.2.1 197 = .ok (.iconst (-1), 1) := by decide +kernel
theorem dX6_broken_198 : decode mX6_broken.2.1 198 = .ok (.if_icmp .eq 23, 3) := by decide +kernel
theorem dX6_broken_201 : decode mX6_broken.2.1 201 = .ok (.iload_n 3, 1) := by decide +kernel
theorem dX6_broken_202 : decode mX6_broken.2.1 202 = .ok (.iconst (-1), 1) := by decide +kernel
theorem dX6_broken_203 : decode mX6_broken.2.1 203 = .ok (.if_icmp .eq 9, 3) := by decide +kernel
theorem dX6_broken_206 : decode mX6_broken.2.1 206 = .ok (.iload 5, 2) := by decide +kernel
theorem dX6_broken_208 : decode mX6_broken.2.1 208 = .ok (.iload_n 3, 1) := by decide +kernel
theorem dX6_broken_209 : decode mX6_broken.2.1 209 = .ok (.if_icmp .ge 12, 3) := by decide +kernel
theorem dX6_broken_212 : decode mX6_broken.2.1 212 = .ok (.iload 5, 2) := by decide +kernel
theorem dX6_broken_214 : decode mX6_broken.2.1 214 = .ok (.istore_n 3, 1) := by decide +kernel
theorem dX6_broken_215 : decode mX6_broken.2.1 215 = .ok (.aload_n 0, 1) := by decide +kernel
theorem dX6_broken_216 : decode mX6_broken.2.1 216 = .ok (.iload 4, 2) := by decide +kernel
theorem dX6_broken_218 : decode mX6_broken.2.1 218 = .ok (.putfield 182, 3) := by decide +kernel
theorem dX6_broken_221 : decode mX6_broken.2.1 221 = .ok (.iinc 4 1, 3) := by decide +kernel
theorem dX6_broken_224 : decode mX6_broken.2.1 224 = .ok (.goto (-47), 3) := by decide +kernel
theorem dX6_broken_227 : decode mX6_broken.2.1 227 = .ok (.iconst 0, 1) := by decide +kernel
theorem dX6_broken_228 : decode mX6_broken.2.1 228 = .ok (.istore 4, 2) := by decide +kernel
theorem dX6_broken_230 : decode mX6_broken.2.1 230 = .ok (.iconst 0, 1) := by decide +kernel
theorem dX6_broken_231 : decode mX6_broken.2.1 231 = .ok (.istore 5, 2) := by decide +kernel
theorem dX6_broken_233 : decode mX6_broken.2.1 233 = .ok (.iload 5, 2) := by decide +kernel
theorem dX6_broken_235 : decode mX6_broken.2.1 235 = .ok (.aload_n 0, 1) := by decide +kernel
theorem dX6_broken_236 : decode mX6_broken.2.1 236 = .ok (.getfield 182, 3) := by decide +kernel
theorem dX6_broken_239 : decode mX6_broken.2.1 239 = .ok (.if_icmp .ge 71, 3) := by decide +kernel
theorem dX6_broken_242 : decode mX6_broken.2.1 242 = .ok (.iconst 1, 1) := by decide +kernel
theorem dX6_broken_243 : decode mX6_broken.2.1 243 = .ok (.istore 6, 2) := by decide +kernel
theorem dX6_broken_245 : decode mX6_broken.2.1 245 = .ok (.aload_n 0, 1) := by decide +kernel
theorem dX6_broken_246 : decode mX6_broken.2.1 246 = .ok (.iload 4, 2) := by decide +kernel
theorem dX6_broken_248 : decode mX6_broken.2.1 248 = .ok (.iload 6, 2) := by decide +kernel
theorem dX6_broken_250 : decode mX6_broken.2.1 250 = .ok (.aload_n 0, 1) := by decide +kernel
theorem dX6_broken_251 : decode mX6_broken.2.1 251 = .ok (.getfield 182, 3) := by decide +kernel
theorem dX6_broken_254 : decode mX6_broken.2.1 254 = .ok (.iload 5, 2) := by decide +kernel
theorem dX6_broken_256 : decode mX6_broken.2.1 256 = .ok (.isub, 1) := by decide +kernel
theorem dX6_broken_257 : decode mX6_broken.2.1 257 = .ok (.iload_n 1, 1) := by decide +kernel
theorem dX6_broken_258 : decode mX6_broken.2.1 258 = .ok (.invokevirtual 178, 3) := by decide +kernel
theorem dX6_broken_261 : decode mX6_broken.2.1 261 = .ok (.aload_n 0, 1) := by decide +kernel
theorem dX6_broken_262 : decode mX6_broken.2.1 262 = .ok (.getfield 80, 3) := by decide +kernel
theorem dX6_broken_265 : decode mX6_broken.2.1 265 = .ok (.bipush 21, 2) := by decide +kernel
theorem dX6_broken_267 : decode mX6_broken.2.1 267 = .ok (.aload_n 0, 1) := by decide +kernel
theorem dX6_broken_268 : decode mX6_broken.2.1 268 = .ok (.getfield 182, 3) := by decide +kernel
theorem dX6_broken_271 : decode mX6_broken.2.1 271 = .ok (.iload 5, 2) := by decide +kernel
theorem dX6_broken_273 : decode mX6_broken.2.1 273 = .ok (.isub, 1) := by decide +kernel
theorem dX6_broken_274 : decode mX6_broken.2.1 274 = .ok (.imul, 1) := by decide +kernel
theorem dX6_broken_275 : decode mX6_broken.2.1 275 = .ok (.iload 4, 2) := by decide +kernel
theorem dX6_broken_277 : decode mX6_broken.2.1 277 = .ok (.iadd, 1) := by decide +kernel
theorem dX6_broken_278 : decode mX6_broken.2.1 278 = .ok (.iaload, 1) := by decide +kernel
theorem dX6_broken_279 : decode mX6_broken.2.1 279 = .ok (.if_icmp .eq 9, 3) := by decide +kernel
theorem dX6_broken_282 : decode mX6_broken.2.1 282 = .ok (.iinc 6 1, 3) := by decide +kernel
theorem dX6_broken_285 : decode mX6_broken.2.1 285 = .ok (.goto (-40), 3) := by decide +kernel
theorem dX6_broken_288 : decode mX6_broken.2.1 288 = .ok (.aload_n 0, 1) := by decide +kernel
theorem dX6_broken_289 : decode mX6_broken.2.1 289 = .ok (.getfield 83, 3) := by decide +kernel
theorem dX6_broken_292 : decode mX6_broken.2.1 292 = .ok (.iload 5, 2) := by decide +kernel
theorem dX6_broken_294 : decode mX6_broken.2.1 294 = .ok (.iload 6, 2) := by decide +kernel
theorem dX6_broken_296 : decode mX6_broken.2.1 296 = .ok (.iastore, 1) := by decide +kernel
theorem dX6_broken_297 : decode mX6_broken.2.1 297 = .ok (.iload 4, 2) := by decide +kernel
theorem dX6_broken_299 : decode mX6_broken.2.1 299 = .ok (.iload 6, 2) := by decide +kernel
theorem dX6_broken_301 : decode mX6_broken.2.1 301 = .ok (.iadd, 1) := by decide +kernel
theorem dX6_broken_302 : decode mX6_broken.2.1 302 = .ok (.istore 4, 2) := by decide +kernel
theorem dX6_broken_304 : decode mX6_broken.2.1 304 = .ok (.iinc 5 1, 3) := by decide +kernel
theorem dX6_broken_307 : decode mX6_broken.2.1 307 = .ok (.goto (-74), 3) := by decide +kernel
theorem dX6_broken_310 : decode mX6_broken.2.1 310 = .ok (.iload_n 3, 1) := by decide +kernel
theorem dX6_broken_311 : decode mX6_broken.2.1 311 = .ok (.ireturn, 1) := by decide +kernel
theorem dX6_line_0 : decode mX6_line.2.1 0 = .ok (.iload_n 1, 1) := by decide +kernel
theorem dX6_line_1 : decode mX6_line.2.1 1 = .ok (.iconst 0, 1) := by decide +kernel
theorem dX6_line_2 : decode mX6_line.2.1 2 = .ok (.aload_n 0, 1) := by decide +kernel
theorem dX6_line_3 : decode mX6_line.2.1 3 = .ok (.getfield 182, 3) := by decide +kernel
theorem dX6_line_6 : decode mX6_line.2.1 6 = .ok (.iconst 1, 1) := by decide +kernel
theorem dX6_line_7 : decode mX6_line.2.1 7 = .ok (.isub, 1) := by decide +kernel
theorem dX6_line_8 : decode mX6_line.2.1 8 = .ok (.invokestatic 129, 3) := by decide +kernel
theorem dX6_line_11 : decode mX6_line.2.1 11 = .ok (.ifCond .eq 12, 3) := by decide +kernel
theorem dX6_line_14 : decode mX6_line.2.1 14 = .ok (.aload_n 0, 1) := by decide +kernel
theorem dX6_line_15 : decode mX6_line.2.1 15 = .ok (.getfield 83, 3) := by decide +kernel
theorem dX6_line_18 : decode mX6_line.2.1 18 = .ok (.iload_n 1, 1) := by decide +kernel
theorem dX6_line_19 : decode mX6_line.2.1 19 = .ok (.iaload, 1) := by decide +kernel
theorem dX6_line_20 : decode mX6_line.2.1 20 = .ok (.goto 5, 3) := by decide +kernel
theorem dX6_line_23 : decode mX6_line.2.1 23 = .ok (.bipush (-3), 2) := by decide +kernel
theorem dX6_line_25 : decode mX6_line.2.1 25 = .ok (.ireturn, 1) := by decide +kernel
theorem dX6_often_0 : decode mX6_often.2.1 0 = .ok (.iconst 0, 1) := by decide +kernel
theorem dX6_often_1 : decode mX6_often.2.1 1 = .ok (.istore_n 2, 1) := by decide +kernel
theorem dX6_often_2 : decode mX6_often.2.1 2 = .ok (.iconst 0, 1) := by decide +kernel
theorem dX6_often_3 : decode mX6_often.2.1 3 = .ok (.istore_n 3, 1) := by decide +kernel
theorem dX6_often_4 : decode mX6_often.2.1 4 = .ok (.iload_n 3, 1) := by decide +kernel
theorem dX6_often_5 : decode mX6_often.2.1 5 = .ok (.aload_n 0, 1) := by decide +kernel
theorem dX6_often_6 : decode mX6_often.2.1 6 = .ok (.getfield 165, 3) := by decide +kernel
theorem dX6_often_9 : decode mX6_often.2.1 9 = .ok (.if_icmp .ge 27, 3) := by decide +kernel
theorem dX6_often_12 : decode mX6_often.2.1 12 = .ok (.iload_n 2, 1) := by decide +kernel
theorem dX6_often_13 : decode mX6_often.2.1 13 = .ok (.aload_n 0, 1) := by decide +kernel
theorem dX6_often_14 : decode mX6_often.2.1 14 = .ok (.getfield 74, 3) := by decide +kernel
theorem dX6_often_17 : decode mX6_often.2.1 17 = .ok (.iload_n 3, 1) := by decide +kernel
theorem dX6_often_18 : decode mX6_often.2.1 18 = .ok (.iaload, 1) := by decide +kernel
theorem dX6_often_19 : decode mX6_often.2.1 19 = .ok (.iload_n 1, 1) := by decide +kernel
theorem dX6_often_20 : decode mX6_often.2.1 20 = .ok (.if_icmp .ne 7, 3) := by decide +kernel
theorem dX6_often_23 : decode mX6_often.2.1 23 = .ok (.iconst 1, 1) := by decide +kernel
theorem dX6_often_24 : decode mX6_often.2.1 24 = .ok (.goto 4, 3) := by decide +kernel
theorem dX6_often_27 : decode mX6_often.2.1 27 = .ok (.iconst 0, 1) := by decide +kernel
theorem dX6_often_28 : decode mX6_often.2.1 28 = .ok (.iadd, 1) := by decide +kernel
theorem dX6_often_29 : decode mX6_often.2.1 29 = .ok (.istore_n 2, 1) := by decide +kernel
theorem dX6_often_30 : decode mX6_often.2.1 30 = .ok (.iinc 3 1, 3) := by decide +kernel
theorem dX6_often_33 : decode mX6_often.2.1 33 = .ok (.goto (-29), 3) := by decide +kernel
theorem dX6_often_36 : decode mX6_often.2.1 36 = .ok (.iload_n 2, 1) := by decide +kernel
theorem dX6_often_37 : decode mX6_often.2.1 37 = .ok (.ireturn, 1) := by decide +kernel
theorem dX6_stamp_0 : decode mX6_stamp.2.1 0 = .ok (.iconst 0, 1) := by decide +kernel
theorem dX6_stamp_1 : decode mX6_stamp.2.1 1 = .ok (.istore_n 1, 1) := by decide +kernel
theorem dX6_stamp_2 : decode mX6_stamp.2.1 2 = .ok (.iconst 0, 1) := by decide +kernel
theorem dX6_stamp_3 : decode mX6_stamp.2.1 3 = .ok (.istore_n 2, 1) := by decide +kernel
theorem dX6_stamp_4 : decode mX6_stamp.2.1 4 = .ok (.iconst 1, 1) := by decide +kernel
theorem dX6_stamp_5 : decode mX6_stamp.2.1 5 = .ok (.istore_n 3, 1) := by decide +kernel
theorem dX6_stamp_6 : decode mX6_stamp.2.1 6 = .ok (.iload_n 3, 1) := by decide +kernel
theorem dX6_stamp_7 : decode mX6_stamp.2.1 7 = .ok (.bipush 27, 2) := by decide +kernel
theorem dX6_stamp_9 : decode mX6_stamp.2.1 9 = .ok (.if_icmp .ge 52, 3) := by decide +kernel
theorem dX6_stamp_12 : decode mX6_stamp.2.1 12 = .ok (.aload_n 0, 1) := by decide +kernel
theorem dX6_stamp_13 : decode mX6_stamp.2.1 13 = .ok (.iload_n 3, 1) := by decide +kernel
theorem dX6_stamp_14 : decode mX6_stamp.2.1 14 = .ok (.invokevirtual 185, 3) := by decide +kernel
theorem dX6_stamp_17 : decode mX6_stamp.2.1 17 = .ok (.istore 4, 2) := by decide +kernel
theorem dX6_stamp_19 : decode mX6_stamp.2.1 19 = .ok (.iload_n 1, 1) := by decide +kernel
theorem dX6_stamp_20 : decode mX6_stamp.2.1 20 = .ok (.iload 4, 2) := by decide +kernel
theorem dX6_stamp_22 : decode mX6_stamp.2.1 22 = .ok (.iadd, 1) := by decide +kernel
theorem dX6_stamp_23 : decode mX6_stamp.2.1 23 = .ok (.istore_n 1, 1) := by decide +kernel
theorem dX6_stamp_24 : decode mX6_stamp.2.1 24 = .ok (.iload_n 2, 1) := by decide +kernel
theorem dX6_stamp_25 : decode mX6_stamp.2.1 25 = .ok (.ifCond .ne 24, 3) := by decide +kernel
theorem dX6_stamp_28 : decode mX6_stamp.2.1 28 = .ok (.iload 4, 2) := by decide +kernel
theorem dX6_stamp_30 : decode mX6_stamp.2.1 30 = .ok (.ifCond .le 23, 3) := by decide +kernel
theorem dX6_stamp_33 : decode mX6_stamp.2.1 33 = .ok (.aload_n 0, 1) := by decide +kernel
theorem dX6_stamp_34 : decode mX6_stamp.2.1 34 = .ok (.getfield 86, 3) := by decide +kernel
theorem dX6_stamp_37 : decode mX6_stamp.2.1 37 = .ok (.iload_n 3, 1) := by decide +kernel
theorem dX6_stamp_38 : decode mX6_stamp.2.1 38 = .ok (.iaload, 1) := by decide +kernel
theorem dX6_stamp_39 : decode mX6_stamp.2.1 39 = .ok (.iload 4, 2) := by decide +kernel
theorem dX6_stamp_41 : decode mX6_stamp.2.1 41 = .ok (.iadd, 1) := by decide +kernel
theorem dX6_stamp_42 : decode mX6_stamp.2.1 42 = .ok (.aload_n 0, 1) := by decide +kernel
theorem dX6_stamp_43 : decode mX6_stamp.2.1 43 = .ok (.getfield 89, 3) := by decide +kernel
theorem dX6_stamp_46 : decode mX6_stamp.2.1 46 = .ok (.if_icmp .le 7, 3) := by decide +kernel
theorem dX6_stamp_49 : decode mX6_stamp.2.1 49 = .ok (.iconst 1, 1) := by decide +kernel
theorem dX6_stamp_50 : decode mX6_stamp.2.1 50 = .ok (.goto 4, 3) := by decide +kernel
theorem dX6_stamp_53 : decode mX6_stamp.2.1 53 = .ok (.iconst 0, 1) := by decide +kernel
theorem dX6_stamp_54 : decode mX6_stamp.2.1 54 = .ok (.istore_n 2, 1) := by decide +kernel
theorem dX6_stamp_55 : decode mX6_stamp.2.1 55 = .ok (.iinc 3 1, 3) := by decide +kernel
theorem dX6_stamp_58 : decode mX6_stamp.2.1 58 = .ok (.goto (-52), 3) := by decide +kernel
theorem dX6_stamp_61 : decode mX6_stamp.2.1 61 = .ok (.iload_n 1, 1) := by decide +kernel
theorem dX6_stamp_62 : decode mX6_stamp.2.1 62 = .ok (.ifCond .ne 6, 3) := by decide +kernel
theorem dX6_stamp_65 : decode mX6_stamp.2.1 65 = .ok (.bipush (-4), 2) := by decide +kernel
theorem dX6_stamp_67 : decode mX6_stamp.2.1 67 = .ok (.ireturn, 1) := by decide +kernel
theorem dX6_stamp_68 : decode mX6_stamp.2.1 68 = .ok (.iload_n 2, 1) := by decide +kernel
theorem dX6_stamp_69 : decode mX6_stamp.2.1 69 = .ok (.ifCond .eq 6, 3) := by decide +kernel
theorem dX6_stamp_72 : decode mX6_stamp.2.1 72 = .ok (.bipush (-5), 2) := by decide +kernel
theorem dX6_stamp_74 : decode mX6_stamp.2.1 74 = .ok (.ireturn, 1) := by decide +kernel
theorem dX6_stamp_75 : decode mX6_stamp.2.1 75 = .ok (.iconst 1, 1) := by decide +kernel
theorem dX6_stamp_76 : decode mX6_stamp.2.1 76 = .ok (.istore_n 3, 1) := by decide +kernel
theorem dX6_stamp_77 : decode mX6_stamp.2.1 77 = .ok (.iload_n 3, 1) := by decide +kernel
theorem dX6_stamp_78 : decode mX6_stamp.2.1 78 = .ok (.bipush 27, 2) := by decide +kernel
theorem dX6_stamp_80 : decode mX6_stamp.2.1 80 = .ok (.if_icmp .ge 23, 3) := by decide +kernel
theorem dX6_stamp_83 : decode mX6_stamp.2.1 83 = .ok (.aload_n 0, 1) := by decide +kernel
theorem dX6_stamp_84 : decode mX6_stamp.2.1 84 = .ok (.getfield 86, 3) := by decide +kernel
theorem dX6_stamp_87 : decode mX6_stamp.2.1 87 = .ok (.iload_n 3, 1) := by decide +kernel
theorem dX6_stamp_88 : decode mX6_stamp.2.1 88 = .ok (.dup2, 1) := by decide +kernel
theorem dX6_stamp_89 : decode mX6_stamp.2.1 89 = .ok (.iaload, 1) := by decide +kernel
theorem dX6_stamp_90 : decode mX6_stamp.2.1 90 = .ok (.aload_n 0, 1) := by decide +kernel
theorem dX6_stamp_91 : decode mX6_stamp.2.1 91 = .ok (.iload_n 3, 1) := by decide +kernel
theorem dX6_stamp_92 : decode mX6_stamp.2.1 92 = .ok (.invokevirtual 185, 3) := by decide +kernel
theorem dX6_stamp_95 : decode mX6_stamp.2.1 95 = .ok (.iadd, 1) := by decide +kernel
theorem dX6_stamp_96 : decode mX6_stamp.2.1 96 = .ok (.iastore, 1) := by decide +kernel
theorem dX6_stamp_97 : decode mX6_stamp.2.1 97 = .ok (.iinc 3 1, 3) := by decide +kernel
theorem dX6_stamp_100 : decode mX6_stamp.2.1 100 = .ok (.goto (-23), 3) := by decide +kernel
theorem dX6_stamp_103 : decode mX6_stamp.2.1 103 = .ok (.iload_n 1, 1) := by decide +kernel
theorem dX6_stamp_104 : decode mX6_stamp.2.1 104 = .ok (.ireturn, 1) := by decide +kernel
theorem dX6_sharpen_0 : decode mX6_sharpen.2.1 0 = .ok (.iload_n 1, 1) := by decide +kernel
theorem dX6_sharpen_1 : decode mX6_sharpen.2.1 1 = .ok (.iconst 1, 1) := by decide +kernel
theorem dX6_sharpen_2 : decode mX6_sharpen.2.1 2 = .ok (.bipush 26, 2) := by decide +kernel
theorem dX6_sharpen_4 : decode mX6_sharpen.2.1 4 = .ok (.invokestatic 129, 3) := by decide +kernel
theorem dX6_sharpen_7 : decode mX6_sharpen.2.1 7 = .ok (.ifCond .ne 6, 3) := by decide +kernel
theorem dX6_sharpen_10 : decode mX6_sharpen.2.1 10 = .ok (.bipush (-2), 2) := by decide +kernel
theorem dX6_sharpen_12 : decode mX6_sharpen.2.1 12 = .ok (.ireturn, 1) := by decide +kernel
theorem dX6_sharpen_13 : decode mX6_sharpen.2.1 13 = .ok (.aload_n 0, 1) := by decide +kernel
theorem dX6_sharpen_14 : decode mX6_sharpen.2.1 14 = .ok (.getfield 86, 3) := by decide +kernel
theorem dX6_sharpen_17 : decode mX6_sharpen.2.1 17 = .ok (.iload_n 1, 1) := by decide +kernel
theorem dX6_sharpen_18 : decode mX6_sharpen.2.1 18 = .ok (.iaload, 1) := by decide +kernel
theorem dX6_sharpen_19 : decode mX6_sharpen.2.1 19 = .ok (.istore_n 2, 1) := by decide +kernel
theorem dX6_sharpen_20 : decode mX6_sharpen.2.1 20 = .ok (.aload_n 0, 1) := by decide +kernel
theorem dX6_sharpen_21 : decode mX6_sharpen.2.1 21 = .ok (.getfield 86, 3) := by decide +kernel
theorem dX6_sharpen_24 : decode mX6_sharpen.2.1 24 = .ok (.iload_n 1, 1) := by decide +kernel
theorem dX6_sharpen_25 : decode mX6_sharpen.2.1 25 = .ok (.iconst 0, 1) := by decide +kernel
theorem dX6_sharpen_26 : decode mX6_sharpen.2.1 26 = .ok (.iastore, 1) := by decide +kernel
theorem dX6_sharpen_27 : decode mX6_sharpen.2.1 27 = .ok (.iload_n 2, 1) := by decide +kernel
theorem dX6_sharpen_28 : decode mX6_sharpen.2.1 28 = .ok (.ireturn, 1) := by decide +kernel
theorem dX6_last_0 : decode mX6_last.2.1 0 = .ok (.iload_n 1, 1) := by decide +kernel
theorem dX6_last_1 : decode mX6_last.2.1 1 = .ok (.iconst 1, 1) := by decide +kernel
theorem dX6_last_2 : decode mX6_last.2.1 2 = .ok (.sipush 1000, 3) := by decide +kernel
theorem dX6_last_5 : decode mX6_last.2.1 5 = .ok (.invokestatic 129, 3) := by decide +kernel
theorem dX6_last_8 : decode mX6_last.2.1 8 = .ok (.ifCond .ne 6, 3) := by decide +kernel
theorem dX6_last_11 : decode mX6_last.2.1 11 = .ok (.bipush (-3), 2) := by decide +kernel
theorem dX6_last_13 : decode mX6_last.2.1 13 = .ok (.ireturn, 1) := by decide +kernel
theorem dX6_last_14 : decode mX6_last.2.1 14 = .ok (.aload_n 0, 1) := by decide +kernel
theorem dX6_last_15 : decode mX6_last.2.1 15 = .ok (.getfield 89, 3) := by decide +kernel
theorem dX6_last_18 : decode mX6_last.2.1 18 = .ok (.istore_n 2, 1) := by decide +kernel
theorem dX6_last_19 : decode mX6_last.2.1 19 = .ok (.aload_n 0, 1) := by decide +kernel
theorem dX6_last_20 : decode mX6_last.2.1 20 = .ok (.iload_n 1, 1) := by decide +kernel
theorem dX6_last_21 : decode mX6_last.2.1 21 = .ok (.putfield 89, 3) := by decide +kernel
theorem dX6_last_24 : decode mX6_last.2.1 24 = .ok (.iload_n 2, 1) := by decide +kernel
theorem dX6_last_25 : decode mX6_last.2.1 25 = .ok (.ireturn, 1) := by decide +kernel
theorem dX6_isSkin_0 : decode mX6_isSkin.2.1 0 = .ok (.iload_n 1, 1) := by decide +kernel
theorem dX6_isSkin_1 : decode mX6_isSkin.2.1 1 = .ok (.iconst 0, 1) := by decide +kernel
theorem dX6_isSkin_2 : decode mX6_isSkin.2.1 2 = .ok (.aload_n 0, 1) := by decide +kernel
theorem dX6_isSkin_3 : decode mX6_isSkin.2.1 3 = .ok (.getfield 188, 3) := by decide +kernel
theorem dX6_isSkin_6 : decode mX6_isSkin.2.1 6 = .ok (.iconst 1, 1) := by decide +kernel
theorem dX6_isSkin_7 : decode mX6_isSkin.2.1 7 = .ok (.isub, 1) := by decide +kernel
theorem dX6_isSkin_8 : decode mX6_isSkin.2.1 8 = .ok (.invokestatic 129, 3) := by decide +kernel
theorem dX6_isSkin_11 : decode mX6_isSkin.2.1 11 = .ok (.ireturn, 1) := by decide +kernel
theorem dX6_isSpot_0 : decode mX6_isSpot.2.1 0 = .ok (.iload_n 2, 1) := by decide +kernel
theorem dX6_isSpot_1 : decode mX6_isSpot.2.1 1 = .ok (.iconst 0, 1) := by decide +kernel
theorem dX6_isSpot_2 : decode mX6_isSpot.2.1 2 = .ok (.aload_n 0, 1) := by decide +kernel
theorem dX6_isSpot_3 : decode mX6_isSpot.2.1 3 = .ok (.getfield 93, 3) := by decide +kernel
theorem dX6_isSpot_6 : decode mX6_isSpot.2.1 6 = .ok (.iload_n 1, 1) := by decide +kernel
theorem dX6_isSpot_7 : decode mX6_isSpot.2.1 7 = .ok (.iaload, 1) := by decide +kernel
theorem dX6_isSpot_8 : decode mX6_isSpot.2.1 8 = .ok (.iconst 1, 1) := by decide +kernel
theorem dX6_isSpot_9 : decode mX6_isSpot.2.1 9 = .ok (.isub, 1) := by decide +kernel
theorem dX6_isSpot_10 : decode mX6_isSpot.2.1 10 = .ok (.invokestatic 129, 3) := by decide +kernel
theorem dX6_isSpot_13 : decode mX6_isSpot.2.1 13 = .ok (.ifCond .eq 23, 3) := by decide +kernel
theorem dX6_isSpot_16 : decode mX6_isSpot.2.1 16 = .ok (.iload_n 3, 1) := by decide +kernel
theorem dX6_isSpot_17 : decode mX6_isSpot.2.1 17 = .ok (.iconst 0, 1) := by decide +kernel
theorem dX6_isSpot_18 : decode mX6_isSpot.2.1 18 = .ok (.aload_n 0, 1) := by decide +kernel
theorem dX6_isSpot_19 : decode mX6_isSpot.2.1 19 = .ok (.getfield 96, 3) := by decide +kernel
theorem dX6_isSpot_22 : decode mX6_isSpot.2.1 22 = .ok (.iload_n 1, 1) := by decide +kernel
theorem dX6_isSpot_23 : decode mX6_isSpot.2.1 23 = .ok (.iaload, 1) := by decide +kernel
theorem dX6_isSpot_24 : decode mX6_isSpot.2.1 24 = .ok (.iconst 1, 1) := by decide +kernel
theorem dX6_isSpot_25 : decode mX6_isSpot.2.1 25 = .ok (.isub, 1) := by decide +kernel
theorem dX6_isSpot_26 : decode mX6_isSpot.2.1 26 = .ok (.invokestatic 129, 3) := by decide +kernel
theorem dX6_isSpot_29 : decode mX6_isSpot.2.1 29 = .ok (.ifCond .eq 7, 3) := by decide +kernel
theorem dX6_isSpot_32 : decode mX6_isSpot.2.1 32 = .ok (.iconst 1, 1) := by decide +kernel
theorem dX6_isSpot_33 : decode mX6_isSpot.2.1 33 = .ok (.goto 4, 3) := by decide +kernel
theorem dX6_isSpot_36 : decode mX6_isSpot.2.1 36 = .ok (.iconst 0, 1) := by decide +kernel
theorem dX6_isSpot_37 : decode mX6_isSpot.2.1 37 = .ok (.ireturn, 1) := by decide +kernel
theorem dX6_skin_0 : decode mX6_skin.2.1 0 = .ok (.iload_n 1, 1) := by decide +kernel
theorem dX6_skin_1 : decode mX6_skin.2.1 1 = .ok (.iconst 1, 1) := by decide +kernel
theorem dX6_skin_2 : decode mX6_skin.2.1 2 = .ok (.bipush 12, 2) := by decide +kernel
theorem dX6_skin_4 : decode mX6_skin.2.1 4 = .ok (.invokestatic 129, 3) := by decide +kernel
theorem dX6_skin_7 : decode mX6_skin.2.1 7 = .ok (.ifCond .eq 23, 3) := by decide +kernel
theorem dX6_skin_10 : decode mX6_skin.2.1 10 = .ok (.iload_n 2, 1) := by decide +kernel
theorem dX6_skin_11 : decode mX6_skin.2.1 11 = .ok (.iconst 1, 1) := by decide +kernel
theorem dX6_skin_12 : decode mX6_skin.2.1 12 = .ok (.bipush 12, 2) := by decide +kernel
theorem dX6_skin_14 : decode mX6_skin.2.1 14 = .ok (.invokestatic 129, 3) := by decide +kernel
theorem dX6_skin_17 : decode mX6_skin.2.1 17 = .ok (.ifCond .eq 13, 3) := by decide +kernel
theorem dX6_skin_20 : decode mX6_skin.2.1 20 = .ok (.iload_n 3, 1) := by decide +kernel
theorem dX6_skin_21 : decode mX6_skin.2.1 21 = .ok (.iconst 0, 1) := by decide +kernel
theorem dX6_skin_22 : decode mX6_skin.2.1 22 = .ok (.bipush 9, 2) := by decide +kernel
theorem dX6_skin_24 : decode mX6_skin.2.1 24 = .ok (.invokestatic 129, 3) := by decide +kernel
theorem dX6_skin_27 : decode mX6_skin.2.1 27 = .ok (.ifCond .ne 6, 3) := by decide +kernel
theorem dX6_skin_30 : decode mX6_skin.2.1 30 = .ok (.bipush (-3), 2) := by decide +kernel
theorem dX6_skin_32 : decode mX6_skin.2.1 32 = .ok (.ireturn, 1) := by decide +kernel
theorem dX6_skin_33 : decode mX6_skin.2.1 33 = .ok (.aload_n 0, 1) := by decide +kernel
theorem dX6_skin_34 : decode mX6_skin.2.1 34 = .ok (.getfield 188, 3) := by decide +kernel
theorem dX6_skin_37 : decode mX6_skin.2.1 37 = .ok (.bipush 6, 2) := by decide +kernel
theorem dX6_skin_39 : decode mX6_skin.2.1 39 = .ok (.if_icmp .ne 6, 3) := by decide +kernel
theorem dX6_skin_42 : decode mX6_skin.2.1 42 = .ok (.bipush (-6), 2) := by decide +kernel
theorem dX6_skin_44 : decode mX6_skin.2.1 44 = .ok (.ireturn, 1) := by decide +kernel
theorem dX6_skin_45 : decode mX6_skin.2.1 45 = .ok (.aload_n 0, 1) := by decide +kernel
theorem dX6_skin_46 : decode mX6_skin.2.1 46 = .ok (.getfield 93, 3) := by decide +kernel
theorem dX6_skin_49 : decode mX6_skin.2.1 49 = .ok (.aload_n 0, 1) := by decide +kernel
theorem dX6_skin_50 : decode mX6_skin.2.1 50 = .ok (.getfield 188, 3) := by decide +kernel
theorem dX6_skin_53 : decode mX6_skin.2.1 53 = .ok (.iload_n 1, 1) := by decide +kernel
theorem dX6_skin_54 : decode mX6_skin.2.1 54 = .ok (.iastore, 1) := by decide +kernel
theorem dX6_skin_55 : decode mX6_skin.2.1 55 = .ok (.aload_n 0, 1) := by decide +kernel
theorem dX6_skin_56 : decode mX6_skin.2.1 56 = .ok (.getfield 96, 3) := by decide +kernel
theorem dX6_skin_59 : decode mX6_skin.2.1 59 = .ok (.aload_n 0, 1) := by decide +kernel
theorem dX6_skin_60 : decode mX6_skin.2.1 60 = .ok (.getfield 188, 3) := by decide +kernel
theorem dX6_skin_63 : decode mX6_skin.2.1 63 = .ok (.iload_n 2, 1) := by decide +kernel
theorem dX6_skin_64 : decode mX6_skin.2.1 64 = .ok (.iastore, 1) := by decide +kernel
theorem dX6_skin_65 : decode mX6_skin.2.1 65 = .ok (.aload_n 0, 1) := by decide +kernel
theorem dX6_skin_66 : decode mX6_skin.2.1 66 = .ok (.getfield 99, 3) := by decide +kernel
theorem dX6_skin_69 : decode mX6_skin.2.1 69 = .ok (.aload_n 0, 1) := by decide +kernel
theorem dX6_skin_70 : decode mX6_skin.2.1 70 = .ok (.getfield 188, 3) := by decide +kernel
theorem dX6_skin_73 : decode mX6_skin.2.1 73 = .ok (.iload_n 3, 1) := by decide +kernel
theorem dX6_skin_74 : decode mX6_skin.2.1 74 = .ok (.iastore, 1) := by decide +kernel
theorem dX6_skin_75 : decode mX6_skin.2.1 75 = .ok (.aload_n 0, 1) := by decide +kernel
theorem dX6_skin_76 : decode mX6_skin.2.1 76 = .ok (.dup, 1) := by decide +kernel
theorem dX6_skin_77 : decode mX6_skin.2.1 77 = .ok (.getfield 188, 3) := by decide +kernel
theorem dX6_skin_80 : decode mX6_skin.2.1 80 = .ok (.iconst 1, 1) := by decide +kernel
theorem dX6_skin_81 : decode mX6_skin.2.1 81 = .ok (.iadd, 1) := by decide +kernel
theorem dX6_skin_82 : decode mX6_skin.2.1 82 = .ok (.putfield 188, 3) := by decide +kernel
theorem dX6_skin_85 : decode mX6_skin.2.1 85 = .ok (.aload_n 0, 1) := by decide +kernel
theorem dX6_skin_86 : decode mX6_skin.2.1 86 = .ok (.getfield 188, 3) := by decide +kernel
theorem dX6_skin_89 : decode mX6_skin.2.1 89 = .ok (.iconst 1, 1) := by decide +kernel
theorem dX6_skin_90 : decode mX6_skin.2.1 90 = .ok (.isub, 1) := by decide +kernel
theorem dX6_skin_91 : decode mX6_skin.2.1 91 = .ok (.ireturn, 1) := by decide +kernel
theorem dX6_flaw_0 : decode mX6_flaw.2.1 0 = .ok (.aload_n 0, 1) := by decide +kernel
theorem dX6_flaw_1 : decode mX6_flaw.2.1 1 = .ok (.iload_n 1, 1) := by decide +kernel
theorem dX6_flaw_2 : decode mX6_flaw.2.1 2 = .ok (.invokevirtual 191, 3) := by decide +kernel
theorem dX6_flaw_5 : decode mX6_flaw.2.1 5 = .ok (.ifCond .ne 6, 3) := by decide +kernel
theorem dX6_flaw_8 : decode mX6_flaw.2.1 8 = .ok (.bipush (-2), 2) := by decide +kernel
theorem dX6_flaw_10 : decode mX6_flaw.2.1 10 = .ok (.ireturn, 1) := by decide +kernel
theorem dX6_flaw_11 : decode mX6_flaw.2.1 11 = .ok (.aload_n 0, 1) := by decide +kernel
theorem dX6_flaw_12 : decode mX6_flaw.2.1 12 = .ok (.iload_n 1, 1) := by decide +kernel
theorem dX6_flaw_13 : decode mX6_flaw.2.1 13 = .ok (.iload_n 2, 1) := by decide +kernel
theorem dX6_flaw_14 : decode mX6_flaw.2.1 14 = .ok (.iload_n 3, 1) := by decide +kernel
theorem dX6_flaw_15 : decode mX6_flaw.2.1 15 = .ok (.invokevirtual 194, 3) := by decide +kernel
theorem dX6_flaw_18 : decode mX6_flaw.2.1 18 = .ok (.ifCond .ne 6, 3) := by decide +kernel
theorem dX6_flaw_21 : decode mX6_flaw.2.1 21 = .ok (.bipush (-3), 2) := by decide +kernel
theorem dX6_flaw_23 : decode mX6_flaw.2.1 23 = .ok (.ireturn, 1) := by decide +kernel
theorem dX6_flaw_24 : decode mX6_flaw.2.1 24 = .ok (.sipush 144, 3) := by decide +kernel
theorem dX6_flaw_27 : decode mX6_flaw.2.1 27 = .ok (.iload_n 1, 1) := by decide +kernel
theorem dX6_flaw_28 : decode mX6_flaw.2.1 28 = .ok (.imul, 1) := by decide +kernel
theorem dX6_flaw_29 : decode mX6_flaw.2.1 29 = .ok (.bipush 12, 2) := by decide +kernel
theorem dX6_flaw_31 : decode mX6_flaw.2.1 31 = .ok (.iload_n 3, 1) := by decide +kernel
theorem dX6_flaw_32 : decode mX6_flaw.2.1 32 = .ok (.imul, 1) := by decide +kernel
theorem dX6_flaw_33 : decode mX6_flaw.2.1 33 = .ok (.iadd, 1) := by decide +kernel
theorem dX6_flaw_34 : decode mX6_flaw.2.1 34 = .ok (.iload_n 2, 1) := by decide +kernel
theorem dX6_flaw_35 : decode mX6_flaw.2.1 35 = .ok (.iadd, 1) := by decide +kernel
theorem dX6_flaw_36 : decode mX6_flaw.2.1 36 = .ok (.istore 4, 2) := by decide +kernel
theorem dX6_flaw_38 : decode mX6_flaw.2.1 38 = .ok (.aload_n 0, 1) := by decide +kernel
theorem dX6_flaw_39 : decode mX6_flaw.2.1 39 = .ok (.getfield 102, 3) := by decide +kernel
theorem dX6_flaw_42 : decode mX6_flaw.2.1 42 = .ok (.iload 4, 2) := by decide +kernel
theorem dX6_flaw_44 : decode mX6_flaw.2.1 44 = .ok (.iaload, 1) := by decide +kernel
theorem dX6_flaw_45 : decode mX6_flaw.2.1 45 = .ok (.ifCond .eq 6, 3) := by decide +kernel
theorem dX6_flaw_48 : decode mX6_flaw.2.1 48 = .ok (.bipush (-4), 2) := by decide +kernel
theorem dX6_flaw_50 : decode mX6_flaw.2.1 50 = .ok (.ireturn, 1) := by decide +kernel
theorem dX6_flaw_51 : decode mX6_flaw.2.1 51 = .ok (.aload_n 0, 1) := by decide +kernel
theorem dX6_flaw_52 : decode mX6_flaw.2.1 52 = .ok (.getfield 102, 3) := by decide +kernel
theorem dX6_flaw_55 : decode mX6_flaw.2.1 55 = .ok (.iload 4, 2) := by decide +kernel
theorem dX6_flaw_57 : decode mX6_flaw.2.1 57 = .ok (.iconst 1, 1) := by decide +kernel
theorem dX6_flaw_58 : decode mX6_flaw.2.1 58 = .ok (.iastore, 1) := by decide +kernel
theorem dX6_flaw_59 : decode mX6_flaw.2.1 59 = .ok (.iconst 1, 1) := by decide +kernel
theorem dX6_flaw_60 : decode mX6_flaw.2.1 60 = .ok (.ireturn, 1) := by decide +kernel
theorem dX6_fits_0 : decode mX6_fits.2.1 0 = .ok (.iload_n 2, 1) := by decide +kernel
theorem dX6_fits_1 : decode mX6_fits.2.1 1 = .ok (.iload 4, 2) := by decide +kernel
theorem dX6_fits_3 : decode mX6_fits.2.1 3 = .ok (.iadd, 1) := by decide +kernel
theorem dX6_fits_4 : decode mX6_fits.2.1 4 = .ok (.aload_n 0, 1) := by decide +kernel
theorem dX6_fits_5 : decode mX6_fits.2.1 5 = .ok (.getfield 93, 3) := by decide +kernel
theorem dX6_fits_8 : decode mX6_fits.2.1 8 = .ok (.iload_n 1, 1) := by decide +kernel
theorem dX6_fits_9 : decode mX6_fits.2.1 9 = .ok (.iaload, 1) := by decide +kernel
theorem dX6_fits_10 : decode mX6_fits.2.1 10 = .ok (.if_icmp .gt 20, 3) := by decide +kernel
theorem dX6_fits_13 : decode mX6_fits.2.1 13 = .ok (.iload_n 3, 1) := by decide +kernel
theorem dX6_fits_14 : decode mX6_fits.2.1 14 = .ok (.iload 5, 2) := by decide +kernel
theorem dX6_fits_16 : decode mX6_fits.2.1 16 = .ok (.iadd, 1) := by decide +kernel
theorem dX6_fits_17 : decode mX6_fits.2.1 17 = .ok (.aload_n 0, 1) := by decide +kernel
theorem dX6_fits_18 : decode mX6_fits.2.1 18 = .ok (.getfield 96, 3) := by decide +kernel
theorem dX6_fits_21 : decode mX6_fits.2.1 21 = .ok (.iload_n 1, 1) := by decide +kernel
theorem dX6_fits_22 : decode mX6_fits.2.1 22 = .ok (.iaload, 1) := by decide +kernel
theorem dX6_fits_23 : decode mX6_fits.2.1 23 = .ok (.if_icmp .gt 7, 3) := by decide +kernel
theorem dX6_fits_26 : decode mX6_fits.2.1 26 = .ok (.iconst 1, 1) := by decide +kernel
theorem dX6_fits_27 : decode mX6_fits.2.1 27 = .ok (.goto 4, 3) := by decide +kernel
theorem dX6_fits_30 : decode mX6_fits.2.1 30 = .ok (.iconst 0, 1) := by decide +kernel
theorem dX6_fits_31 : decode mX6_fits.2.1 31 = .ok (.istore 6, 2) := by decide +kernel
theorem dX6_fits_33 : decode mX6_fits.2.1 33 = .ok (.iload_n 3, 1) := by decide +kernel
theorem dX6_fits_34 : decode mX6_fits.2.1 34 = .ok (.istore 7, 2) := by decide +kernel
theorem dX6_fits_36 : decode mX6_fits.2.1 36 = .ok (.iload 7, 2) := by decide +kernel
theorem dX6_fits_38 : decode mX6_fits.2.1 38 = .ok (.iload_n 3, 1) := by decide +kernel
theorem dX6_fits_39 : decode mX6_fits.2.1 39 = .ok (.iload 5, 2) := by decide +kernel
theorem dX6_fits_41 : decode mX6_fits.2.1 41 = .ok (.iadd, 1) := by decide +kernel
theorem dX6_fits_42 : decode mX6_fits.2.1 42 = .ok (.if_icmp .ge 66, 3) := by decide +kernel
theorem dX6_fits_45 : decode mX6_fits.2.1 45 = .ok (.iload 6, 2) := by decide +kernel
theorem dX6_fits_47 : decode mX6_fits.2.1 47 = .ok (.ifCond .eq 61, 3) := by decide +kernel
theorem dX6_fits_50 : decode mX6_fits.2.1 50 = .ok (.iload_n 2, 1) := by decide +kernel
theorem dX6_fits_51 : decode mX6_fits.2.1 51 = .ok (.istore 8, 2) := by decide +kernel
theorem dX6_fits_53 : decode mX6_fits.2.1 53 = .ok (.iload 8, 2) := by decide +kernel
theorem dX6_fits_55 : decode mX6_fits.2.1 55 = .ok (.iload_n 2, 1) := by decide +kernel
theorem dX6_fits_56 : decode mX6_fits.2.1 56 = .ok (.iload 4, 2) := by decide +kernel
theorem dX6_fits_58 : decode mX6_fits.2.1 58 = .ok (.iadd, 1) := by decide +kernel
theorem dX6_fits_59 : decode mX6_fits.2.1 59 = .ok (.if_icmp .ge 43, 3) := by decide +kernel
theorem dX6_fits_62 : decode mX6_fits.2.1 62 = .ok (.iload 6, 2) := by decide +kernel
theorem dX6_fits_64 : decode mX6_fits.2.1 64 = .ok (.ifCond .eq 38, 3) := by decide +kernel
theorem dX6_fits_67 : decode mX6_fits.2.1 67 = .ok (.aload_n 0, 1) := by decide +kernel
theorem dX6_fits_68 : decode mX6_fits.2.1 68 = .ok (.getfield 102, 3) := by decide +kernel
theorem dX6_fits_71 : decode mX6_fits.2.1 71 = .ok (.sipush 144, 3) := by decide +kernel
theorem dX6_fits_74 : decode mX6_fits.2.1 74 = .ok (.iload_n 1, 1) := by decide +kernel
theorem dX6_fits_75 : decode mX6_fits.2.1 75 = .ok (.imul, 1) := by decide +kernel
theorem dX6_fits_76 : decode mX6_fits.2.1 76 = .ok (.bipush 12, 2) := by decide +kernel
theorem dX6_fits_78 : decode mX6_fits.2.1 78 = .ok (.iload 7, 2) := by decide +kernel
theorem dX6_fits_80 : decode mX6_fits.2.1 80 = .ok (.imul, 1) := by decide +kernel
theorem dX6_fits_81 : decode mX6_fits.2.1 81 = .ok (.iadd, 1) := by decide +kernel
theorem dX6_fits_82 : decode mX6_fits.2.1 82 = .ok (.iload 8, 2) := by decide +kernel
theorem dX6_fits_84 : decode mX6_fits.2.1 84 = .ok (.iadd, 1) := by decide +kernel
theorem dX6_fits_85 : decode mX6_fits.2.1 85 = .ok (.iaload, 1) := by decide +kernel
theorem dX6_fits_86 : decode mX6_fits.2.1 86 = .ok (.ifCond .ne 7, 3) := by decide +kernel
theorem dX6_fits_89 : decode mX6_fits.2.1 89 = .ok (.iconst 1, 1) := by decide +kernel
theorem dX6_fits_90 : decode mX6_fits.2.1 90 = .ok (.goto 4, 3) := by decide +kernel
theorem dX6_fits_93 : decode mX6_fits.2.1 93 = .ok (.iconst 0, 1) := by decide +kernel
theorem dX6_fits_94 : decode mX6_fits.2.1 94 = .ok (.istore 6, 2) := by decide +kernel
theorem dX6_fits_96 : decode mX6_fits.2.1 96 = .ok (.iinc 8 1, 3) := by decide +kernel
theorem dX6_fits_99 : decode mX6_fits.2.1 99 = .ok (.goto (-46), 3) := by decide +kernel
theorem dX6_fits_102 : decode mX6_fits.2.1 102 = .ok (.iinc 7 1, 3) := by decide +kernel
theorem dX6_fits_105 : decode mX6_fits.2.1 105 = .ok (.goto (-69), 3) := by decide +kernel
theorem dX6_fits_108 : decode mX6_fits.2.1 108 = .ok (.iload 6, 2) := by decide +kernel
theorem dX6_fits_110 : decode mX6_fits.2.1 110 = .ok (.ireturn, 1) := by decide +kernel
theorem dX6_take_0 : decode mX6_take.2.1 0 = .ok (.iload_n 3, 1) := by decide +kernel
theorem dX6_take_1 : decode mX6_take.2.1 1 = .ok (.istore 7, 2) := by decide +kernel
theorem dX6_take_3 : decode mX6_take.2.1 3 = .ok (.iload 7, 2) := by decide +kernel
theorem dX6_take_5 : decode mX6_take.2.1 5 = .ok (.iload_n 3, 1) := by decide +kernel
theorem dX6_take_6 : decode mX6_take.2.1 6 = .ok (.iload 5, 2) := by decide +kernel
theorem dX6_take_8 : decode mX6_take.2.1 8 = .ok (.iadd, 1) := by decide +kernel
theorem dX6_take_9 : decode mX6_take.2.1 9 = .ok (.if_icmp .ge 54, 3) := by decide +kernel
theorem dX6_take_12 : decode mX6_take.2.1 12 = .ok (.iload_n 2, 1) := by decide +kernel
theorem dX6_take_13 : decode mX6_take.2.1 13 = .ok (.istore 8, 2) := by decide +kernel
theorem dX6_take_15 : decode mX6_take.2.1 15 = .ok (.iload 8, 2) := by decide +kernel
theorem dX6_take_17 : decode mX6_take.2.1 17 = .ok (.iload_n 2, 1) := by decide +kernel
theorem dX6_take_18 : decode mX6_take.2.1 18 = .ok (.iload 4, 2) := by decide +kernel
theorem dX6_take_20 : decode mX6_take.2.1 20 = .ok (.iadd, 1) := by decide +kernel
theorem dX6_take_21 : decode mX6_take.2.1 21 = .ok (.if_icmp .ge 36, 3) := by decide +kernel
theorem dX6_take_24 : decode mX6_take.2.1 24 = .ok (.aload_n 0, 1) := by decide +kernel
theorem dX6_take_25 : decode mX6_take.2.1 25 = .ok (.getfield 102, 3) := by decide +kernel
theorem dX6_take_28 : decode mX6_take.2.1 28 = .ok (.sipush 144, 3) := by decide +kernel
theorem dX6_take_31 : decode mX6_take.2.1 31 = .ok (.iload_n 1, 1) := by decide +kernel
theorem dX6_take_32 : decode mX6_take.2.1 32 = .ok (.imul, 1) := by decide +kernel
theorem dX6_take_33 : decode mX6_take.2.1 33 = .ok (.bipush 12, 2) := by decide +kernel
theorem dX6_take_35 : decode mX6_take.2.1 35 = .ok (.iload 7, 2) := by decide +kernel
theorem dX6_take_37 : decode mX6_take.2.1 37 = .ok (.imul, 1) := by decide +kernel
theorem dX6_take_38 : decode mX6_take.2.1 38 = .ok (.iadd, 1) := by decide +kernel
theorem dX6_take_39 : decode mX6_take.2.1 39 = .ok (.iload 8, 2) := by decide +kernel
theorem dX6_take_41 : decode mX6_take.2.1 41 = .ok (.iadd, 1) := by decide +kernel
theorem dX6_take_42 : decode mX6_take.2.1 42 = .ok (.iconst 2, 1) := by decide +kernel
theorem dX6_take_43 : decode mX6_take.2.1 43 = .ok (.aload_n 0, 1) := by decide +kernel
theorem dX6_take_44 : decode mX6_take.2.1 44 = .ok (.getfield 105, 3) := by decide +kernel
theorem dX6_take_47 : decode mX6_take.2.1 47 = .ok (.iload_n 1, 1) := by decide +kernel
theorem dX6_take_48 : decode mX6_take.2.1 48 = .ok (.iaload, 1) := by decide +kernel
theorem dX6_take_49 : decode mX6_take.2.1 49 = .ok (.iadd, 1) := by decide +kernel
theorem dX6_take_50 : decode mX6_take.2.1 50 = .ok (.iastore, 1) := by decide +kernel
theorem dX6_take_51 : decode mX6_take.2.1 51 = .ok (.iinc 8 1, 3) := by decide +kernel
theorem dX6_take_54 : decode mX6_take.2.1 54 = .ok (.goto (-39), 3) := by decide +kernel
theorem dX6_take_57 : decode mX6_take.2.1 57 = .ok (.iinc 7 1, 3) := by decide +kernel
theorem dX6_take_60 : decode mX6_take.2.1 60 = .ok (.goto (-57), 3) := by decide +kernel
theorem dX6_take_63 : decode mX6_take.2.1 63 = .ok (.aload_n 0, 1) := by decide +kernel
theorem dX6_take_64 : decode mX6_take.2.1 64 = .ok (.getfield 105, 3) := by decide +kernel
theorem dX6_take_67 : decode mX6_take.2.1 67 = .ok (.iload_n 1, 1) := by decide +kernel
theorem dX6_take_68 : decode mX6_take.2.1 68 = .ok (.dup2, 1) := by decide +kernel
theorem dX6_take_69 : decode mX6_take.2.1 69 = .ok (.iaload, 1) := by decide +kernel
theorem dX6_take_70 : decode mX6_take.2.1 70 = .ok (.iconst 1, 1) := by decide +kernel
theorem dX6_take_71 : decode mX6_take.2.1 71 = .ok (.iadd, 1) := by decide +kernel
theorem dX6_take_72 : decode mX6_take.2.1 72 = .ok (.iastore, 1) := by decide +kernel
theorem dX6_take_73 : decode mX6_take.2.1 73 = .ok (.iload_n 2, 1) := by decide +kernel
theorem dX6_take_74 : decode mX6_take.2.1 74 = .ok (.bipush 100, 2) := by decide +kernel
theorem dX6_take_76 : decode mX6_take.2.1 76 = .ok (.iload_n 3, 1) := by decide +kernel
theorem dX6_take_77 : decode mX6_take.2.1 77 = .ok (.imul, 1) := by decide +kernel
theorem dX6_take_78 : decode mX6_take.2.1 78 = .ok (.iadd, 1) := by decide +kernel
theorem dX6_take_79 : decode mX6_take.2.1 79 = .ok (.iload 6, 2) := by decide +kernel
theorem dX6_take_81 : decode mX6_take.2.1 81 = .ok (.ifCond .eq 9, 3) := by decide +kernel
theorem dX6_take_84 : decode mX6_take.2.1 84 = .ok (.sipush 10000, 3) := by decide +kernel
theorem dX6_take_87 : decode mX6_take.2.1 87 = .ok (.goto 4, 3) := by decide +kernel
theorem dX6_take_90 : decode mX6_take.2.1 90 = .ok (.iconst 0, 1) := by decide +kernel
theorem dX6_take_91 : decode mX6_take.2.1 91 = .ok (.iadd, 1) := by decide +kernel
theorem dX6_take_92 : decode mX6_take.2.1 92 = .ok (.ireturn, 1) := by decide +kernel
theorem dX6_cutOf_0 : decode mX6_cutOf.2.1 0 = .ok (.iconst 0, 1) := by decide +kernel
theorem dX6_cutOf_1 : decode mX6_cutOf.2.1 1 = .ok (.istore 4, 2) := by decide +kernel
theorem dX6_cutOf_3 : decode mX6_cutOf.2.1 3 = .ok (.iload 4, 2) := by decide +kernel
theorem dX6_cutOf_5 : decode mX6_cutOf.2.1 5 = .ok (.aload_n 0, 1) := by decide +kernel
theorem dX6_cutOf_6 : decode mX6_cutOf.2.1 6 = .ok (.getfield 96, 3) := by decide +kernel
theorem dX6_cutOf_9 : decode mX6_cutOf.2.1 9 = .ok (.iload_n 1, 1) := by decide +kernel
theorem dX6_cutOf_10 : decode mX6_cutOf.2.1 10 = .ok (.iaload, 1) := by decide +kernel
theorem dX6_cutOf_11 : decode mX6_cutOf.2.1 11 = .ok (.if_icmp .ge 83, 3) := by decide +kernel
theorem dX6_cutOf_14 : decode mX6_cutOf.2.1 14 = .ok (.iconst 0, 1) := by decide +kernel
theorem dX6_cutOf_15 : decode mX6_cutOf.2.1 15 = .ok (.istore 5, 2) := by decide +kernel
theorem dX6_cutOf_17 : decode mX6_cutOf.2.1 17 = .ok (.iload 5, 2) := by decide +kernel
theorem dX6_cutOf_19 : decode mX6_cutOf.2.1 19 = .ok (.aload_n 0, 1) := by decide +kernel
theorem dX6_cutOf_20 : decode mX6_cutOf.2.1 20 = .ok (.getfield 93, 3) := by decide +kernel
theorem dX6_cutOf_23 : decode mX6_cutOf.2.1 23 = .ok (.iload_n 1, 1) := by decide +kernel
theorem dX6_cutOf_24 : decode mX6_cutOf.2.1 24 = .ok (.iaload, 1) := by decide +kernel
theorem dX6_cutOf_25 : decode mX6_cutOf.2.1 25 = .ok (.if_icmp .ge 63, 3) := by decide +kernel
theorem dX6_cutOf_28 : decode mX6_cutOf.2.1 28 = .ok (.aload_n 0, 1) := by decide +kernel
theorem dX6_cutOf_29 : decode mX6_cutOf.2.1 29 = .ok (.iload_n 1, 1) := by decide +kernel
theorem dX6_cutOf_30 : decode mX6_cutOf.2.1 30 = .ok (.iload 5, 2) := by decide +kernel
theorem dX6_cutOf_32 : decode mX6_cutOf.2.1 32 = .ok (.iload 4, 2) := by decide +kernel
theorem dX6_cutOf_34 : decode mX6_cutOf.2.1 34 = .ok (.iload_n 2, 1) := by decide +kernel
theorem dX6_cutOf_35 : decode mX6_cutOf.2.1 35 = .ok (.iload_n 3, 1) := by decide +kernel
theorem dX6_cutOf_36 : decode mX6_cutOf.2.1 36 = .ok (.invokevirtual 197, 3) := by decide +kernel
theorem dX6_cutOf_39 : decode mX6_cutOf.2.1 39 = .ok (.ifCond .eq 16, 3) := by decide +kernel
theorem dX6_cutOf_42 : decode mX6_cutOf.2.1 42 = .ok (.aload_n 0, 1) := by decide +kernel
theorem dX6_cutOf_43 : decode mX6_cutOf.2.1 43 = .ok (.iload_n 1, 1) := by decide +kernel
theorem dX6_cutOf_44 : decode mX6_cutOf.2.1 44 = .ok (.iload 5, 2) := by decide +kernel
theorem dX6_cutOf_46 : decode mX6_cutOf.2.1 46 = .ok (.iload 4, 2) := by decide +kernel
theorem dX6_cutOf_48 : decode mX6_cutOf.2.1 48 = .ok (.iload_n 2, 1) := by decide +kernel
theorem dX6_cutOf_49 : decode mX6_cutOf.2.1 49 = .ok (.iload_n 3, 1) := by decide +kernel
theorem dX6_cutOf_50 : decode mX6_cutOf.2.1 50 = .ok (.iconst 0, 1) := by decide +kernel
theorem dX6_cutOf_51 : decode mX6_cutOf.2.1 51 = .ok (.invokevirtual 201, 3) := by decide +kernel
theorem dX6_cutOf_54 : decode mX6_cutOf.2.1 54 = .ok (.ireturn, 1) := by decide +kernel
theorem dX6_cutOf_55 : decode mX6_cutOf.2.1 55 = .ok (.aload_n 0, 1) := by decide +kernel
theorem dX6_cutOf_56 : decode mX6_cutOf.2.1 56 = .ok (.iload_n 1, 1) := by decide +kernel
theorem dX6_cutOf_57 : decode mX6_cutOf.2.1 57 = .ok (.iload 5, 2) := by decide +kernel
theorem dX6_cutOf_59 : decode mX6_cutOf.2.1 59 = .ok (.iload 4, 2) := by decide +kernel
theorem dX6_cutOf_61 : decode mX6_cutOf.2.1 61 = .ok (.iload_n 3, 1) := by decide +kernel
theorem dX6_cutOf_62 : decode mX6_cutOf.2.1 62 = .ok (.iload_n 2, 1) := by decide +kernel
theorem dX6_cutOf_63 : decode mX6_cutOf.2.1 63 = .ok (.invokevirtual 197, 3) := by decide +kernel
theorem dX6_cutOf_66 : decode mX6_cutOf.2.1 66 = .ok (.ifCond .eq 16, 3) := by decide +kernel
theorem dX6_cutOf_69 : decode mX6_cutOf.2.1 69 = .ok (.aload_n 0, 1) := by decide +kernel
theorem dX6_cutOf_70 : decode mX6_cutOf.2.1 70 = .ok (.iload_n 1, 1) := by decide +kernel
theorem dX6_cutOf_71 : decode mX6_cutOf.2.1 71 = .ok (.iload 5, 2) := by decide +kernel
theorem dX6_cutOf_73 : decode mX6_cutOf.2.1 73 = .ok (.iload 4, 2) := by decide +kernel
theorem dX6_cutOf_75 : decode mX6_cutOf.2.1 75 = .ok (.iload_n 3, 1) := by decide +kernel
theorem dX6_cutOf_76 : decode mX6_cutOf.2.1 76 = .ok (.iload_n 2, 1) := by decide +kernel
theorem dX6_cutOf_77 : decode mX6_cutOf.2.1 77 = .ok (.iconst 1, 1) := by decide +kernel
theorem dX6_cutOf_78 : decode mX6_cutOf.2.1 78 = .ok (.invokevirtual 201, 3) := by decide +kernel
theorem dX6_cutOf_81 : decode mX6_cutOf.2.1 81 = .ok (.ireturn, 1) := by decide +kernel
theorem dX6_cutOf_82 : decode mX6_cutOf.2.1 82 = .ok (.iinc 5 1, 3) := by decide +kernel
theorem dX6_cutOf_85 : decode mX6_cutOf.2.1 85 = .ok (.goto (-68), 3) := by decide +kernel
theorem dX6_cutOf_88 : decode mX6_cutOf.2.1 88 = .ok (.iinc 4 1, 3) := by decide +kernel
theorem dX6_cutOf_91 : decode mX6_cutOf.2.1 91 = .ok (.goto (-88), 3) := by decide +kernel
theorem dX6_cutOf_94 : decode mX6_cutOf.2.1 94 = .ok (.iconst (-1), 1) := by decide +kernel
theorem dX6_cutOf_95 : decode mX6_cutOf.2.1 95 = .ok (.ireturn, 1) := by decide +kernel
theorem dX6_cut_0 : decode mX6_cut.2.1 0 = .ok (.aload_n 0, 1) := by decide +kernel
theorem dX6_cut_1 : decode mX6_cut.2.1 1 = .ok (.iload_n 1, 1) := by decide +kernel
theorem dX6_cut_2 : decode mX6_cut.2.1 2 = .ok (.invokevirtual 191, 3) := by decide +kernel
theorem dX6_cut_5 : decode mX6_cut.2.1 5 = .ok (.ifCond .ne 6, 3) := by decide +kernel
theorem dX6_cut_8 : decode mX6_cut.2.1 8 = .ok (.bipush (-2), 2) := by decide +kernel
theorem dX6_cut_10 : decode mX6_cut.2.1 10 = .ok (.ireturn, 1) := by decide +kernel
theorem dX6_cut_11 : decode mX6_cut.2.1 11 = .ok (.iload_n 2, 1) := by decide +kernel
theorem dX6_cut_12 : decode mX6_cut.2.1 12 = .ok (.iconst 1, 1) := by decide +kernel
theorem dX6_cut_13 : decode mX6_cut.2.1 13 = .ok (.bipush 12, 2) := by decide +kernel
theorem dX6_cut_15 : decode mX6_cut.2.1 15 = .ok (.invokestatic 129, 3) := by decide +kernel
theorem dX6_cut_18 : decode mX6_cut.2.1 18 = .ok (.ifCond .eq 13, 3) := by decide +kernel
theorem dX6_cut_21 : decode mX6_cut.2.1 21 = .ok (.iload_n 3, 1) := by decide +kernel
theorem dX6_cut_22 : decode mX6_cut.2.1 22 = .ok (.iconst 1, 1) := by decide +kernel
theorem dX6_cut_23 : decode mX6_cut.2.1 23 = .ok (.bipush 12, 2) := by decide +kernel
theorem dX6_cut_25 : decode mX6_cut.2.1 25 = .ok (.invokestatic 129, 3) := by decide +kernel
theorem dX6_cut_28 : decode mX6_cut.2.1 28 = .ok (.ifCond .ne 6, 3) := by decide +kernel
theorem dX6_cut_31 : decode mX6_cut.2.1 31 = .ok (.bipush (-3), 2) := by decide +kernel
theorem dX6_cut_33 : decode mX6_cut.2.1 33 = .ok (.ireturn, 1) := by decide +kernel
theorem dX6_cut_34 : decode mX6_cut.2.1 34 = .ok (.aload_n 0, 1) := by decide +kernel
theorem dX6_cut_35 : decode mX6_cut.2.1 35 = .ok (.iload_n 1, 1) := by decide +kernel
theorem dX6_cut_36 : decode mX6_cut.2.1 36 = .ok (.iload_n 2, 1) := by decide +kernel
theorem dX6_cut_37 : decode mX6_cut.2.1 37 = .ok (.iload_n 3, 1) := by decide +kernel
theorem dX6_cut_38 : decode mX6_cut.2.1 38 = .ok (.invokevirtual 205, 3) := by decide +kernel
theorem dX6_cut_41 : decode mX6_cut.2.1 41 = .ok (.istore 4, 2) := by decide +kernel
theorem dX6_cut_43 : decode mX6_cut.2.1 43 = .ok (.iload 4, 2) := by decide +kernel
theorem dX6_cut_45 : decode mX6_cut.2.1 45 = .ok (.iconst (-1), 1) := by decide +kernel
theorem dX6_cut_46 : decode mX6_cut.2.1 46 = .ok (.if_icmp .ne 8, 3) := by decide +kernel
theorem dX6_cut_49 : decode mX6_cut.2.1 49 = .ok (.bipush (-4), 2) := by decide +kernel
theorem dX6_cut_51 : decode mX6_cut.2.1 51 = .ok (.goto 5, 3) := by decide +kernel
theorem dX6_cut_54 : decode mX6_cut.2.1 54 = .ok (.iload 4, 2) := by decide +kernel
theorem dX6_cut_56 : decode mX6_cut.2.1 56 = .ok (.ireturn, 1) := by decide +kernel
theorem dX6_covers_0 : decode mX6_covers.2.1 0 = .ok (.iload_n 1, 1) := by decide +kernel
theorem dX6_covers_1 : decode mX6_covers.2.1 1 = .ok (.iconst 0, 1) := by decide +kernel
theorem dX6_covers_2 : decode mX6_covers.2.1 2 = .ok (.bipush 9, 2) := by decide +kernel
theorem dX6_covers_4 : decode mX6_covers.2.1 4 = .ok (.invokestatic 129, 3) := by decide +kernel
theorem dX6_covers_7 : decode mX6_covers.2.1 7 = .ok (.ifCond .eq 34, 3) := by decide +kernel
theorem dX6_covers_10 : decode mX6_covers.2.1 10 = .ok (.iload_n 2, 1) := by decide +kernel
theorem dX6_covers_11 : decode mX6_covers.2.1 11 = .ok (.iconst 1, 1) := by decide +kernel
theorem dX6_covers_12 : decode mX6_covers.2.1 12 = .ok (.bipush 12, 2) := by decide +kernel
theorem dX6_covers_14 : decode mX6_covers.2.1 14 = .ok (.invokestatic 129, 3) := by decide +kernel
theorem dX6_covers_17 : decode mX6_covers.2.1 17 = .ok (.ifCond .eq 24, 3) := by decide +kernel
theorem dX6_covers_20 : decode mX6_covers.2.1 20 = .ok (.iload_n 3, 1) := by decide +kernel
theorem dX6_covers_21 : decode mX6_covers.2.1 21 = .ok (.iconst 1, 1) := by decide +kernel
theorem dX6_covers_22 : decode mX6_covers.2.1 22 = .ok (.bipush 12, 2) := by decide +kernel
theorem dX6_covers_24 : decode mX6_covers.2.1 24 = .ok (.invokestatic 129, 3) := by decide +kernel
theorem dX6_covers_27 : decode mX6_covers.2.1 27 = .ok (.ifCond .eq 14, 3) := by decide +kernel
theorem dX6_covers_30 : decode mX6_covers.2.1 30 = .ok (.iload 4, 2) := by decide +kernel
theorem dX6_covers_32 : decode mX6_covers.2.1 32 = .ok (.iconst 1, 1) := by decide +kernel
theorem dX6_covers_33 : decode mX6_covers.2.1 33 = .ok (.bipush 8, 2) := by decide +kernel
theorem dX6_covers_35 : decode mX6_covers.2.1 35 = .ok (.invokestatic 129, 3) := by decide +kernel
theorem dX6_covers_38 : decode mX6_covers.2.1 38 = .ok (.ifCond .ne 6, 3) := by decide +kernel
theorem dX6_covers_41 : decode mX6_covers.2.1 41 = .ok (.bipush (-3), 2) := by decide +kernel
theorem dX6_covers_43 : decode mX6_covers.2.1 43 = .ok (.ireturn, 1) := by decide +kernel
theorem dX6_covers_44 : decode mX6_covers.2.1 44 = .ok (.iconst 0, 1) := by decide +kernel
theorem dX6_covers_45 : decode mX6_covers.2.1 45 = .ok (.istore 5, 2) := by decide +kernel
theorem dX6_covers_47 : decode mX6_covers.2.1 47 = .ok (.iload 5, 2) := by decide +kernel
theorem dX6_covers_49 : decode mX6_covers.2.1 49 = .ok (.sipush 864, 3) := by decide +kernel
theorem dX6_covers_52 : decode mX6_covers.2.1 52 = .ok (.if_icmp .ge 23, 3) := by decide +kernel
theorem dX6_covers_55 : decode mX6_covers.2.1 55 = .ok (.aload_n 0, 1) := by decide +kernel
theorem dX6_covers_56 : decode mX6_covers.2.1 56 = .ok (.getfield 108, 3) := by decide +kernel
theorem dX6_covers_59 : decode mX6_covers.2.1 59 = .ok (.iload 5, 2) := by decide +kernel
theorem dX6_covers_61 : decode mX6_covers.2.1 61 = .ok (.aload_n 0, 1) := by decide +kernel
theorem dX6_covers_62 : decode mX6_covers.2.1 62 = .ok (.getfield 102, 3) := by decide +kernel
theorem dX6_covers_65 : decode mX6_covers.2.1 65 = .ok (.iload 5, 2) := by decide +kernel
theorem dX6_covers_67 : decode mX6_covers.2.1 67 = .ok (.iaload, 1) := by decide +kernel
theorem dX6_covers_68 : decode mX6_covers.2.1 68 = .ok (.iastore, 1) := by decide +kernel
theorem dX6_covers_69 : decode mX6_covers.2.1 69 = .ok (.iinc 5 1, 3) := by decide +kernel
theorem dX6_covers_72 : decode mX6_covers.2.1 72 = .ok (.goto (-25), 3) := by decide +kernel
theorem dX6_covers_75 : decode mX6_covers.2.1 75 = .ok (.iconst 0, 1) := by decide +kernel
theorem dX6_covers_76 : decode mX6_covers.2.1 76 = .ok (.istore 5, 2) := by decide +kernel
theorem dX6_covers_78 : decode mX6_covers.2.1 78 = .ok (.iload 5, 2) := by decide +kernel
theorem dX6_covers_80 : decode mX6_covers.2.1 80 = .ok (.bipush 6, 2) := by decide +kernel
theorem dX6_covers_82 : decode mX6_covers.2.1 82 = .ok (.if_icmp .ge 23, 3) := by decide +kernel
theorem dX6_covers_85 : decode mX6_covers.2.1 85 = .ok (.aload_n 0, 1) := by decide +kernel
theorem dX6_covers_86 : decode mX6_covers.2.1 86 = .ok (.getfield 111, 3) := by decide +kernel
theorem dX6_covers_89 : decode mX6_covers.2.1 89 = .ok (.iload 5, 2) := by decide +kernel
theorem dX6_covers_91 : decode mX6_covers.2.1 91 = .ok (.aload_n 0, 1) := by decide +kernel
theorem dX6_covers_92 : decode mX6_covers.2.1 92 = .ok (.getfield 105, 3) := by decide +kernel
theorem dX6_covers_95 : decode mX6_covers.2.1 95 = .ok (.iload 5, 2) := by decide +kernel
theorem dX6_covers_97 : decode mX6_covers.2.1 97 = .ok (.iaload, 1) := by decide +kernel
theorem dX6_covers_98 : decode mX6_covers.2.1 98 = .ok (.iastore, 1) := by decide +kernel
theorem dX6_covers_99 : decode mX6_covers.2.1 99 = .ok (.iinc 5 1, 3) := by decide +kernel
theorem dX6_covers_102 : decode mX6_covers.2.1 102 = .ok (.goto (-24), 3) := by decide +kernel
theorem dX6_covers_105 : decode mX6_covers.2.1 105 = .ok (.iconst 0, 1) := by decide +kernel
theorem dX6_covers_106 : decode mX6_covers.2.1 106 = .ok (.istore 5, 2) := by decide +kernel
theorem dX6_covers_108 : decode mX6_covers.2.1 108 = .ok (.iconst 0, 1) := by decide +kernel
theorem dX6_covers_109 : decode mX6_covers.2.1 109 = .ok (.istore 6, 2) := by decide +kernel
theorem dX6_covers_111 : decode mX6_covers.2.1 111 = .ok (.iconst 0, 1) := by decide +kernel
theorem dX6_covers_112 : decode mX6_covers.2.1 112 = .ok (.istore 7, 2) := by decide +kernel
theorem dX6_covers_114 : decode mX6_covers.2.1 114 = .ok (.iload 7, 2) := by decide +kernel
theorem dX6_covers_116 : decode mX6_covers.2.1 116 = .ok (.aload_n 0, 1) := by decide +kernel
theorem dX6_covers_117 : decode mX6_covers.2.1 117 = .ok (.getfield 188, 3) := by decide +kernel
theorem dX6_covers_120 : decode mX6_covers.2.1 120 = .ok (.if_icmp .ge 54, 3) := by decide +kernel
theorem dX6_covers_123 : decode mX6_covers.2.1 123 = .ok (.iload 5, 2) := by decide +kernel
theorem dX6_covers_125 : decode mX6_covers.2.1 125 = .ok (.iload 4, 2) := by decide +kernel
theorem dX6_covers_127 : decode mX6_covers.2.1 127 = .ok (.if_icmp .ge 41, 3) := by decide +kernel
theorem dX6_covers_130 : decode mX6_covers.2.1 130 = .ok (.aload_n 0, 1) := by decide +kernel
theorem dX6_covers_131 : decode mX6_covers.2.1 131 = .ok (.getfield 99, 3) := by decide +kernel
theorem dX6_covers_134 : decode mX6_covers.2.1 134 = .ok (.iload 7, 2) := by decide +kernel
theorem dX6_covers_136 : decode mX6_covers.2.1 136 = .ok (.iaload, 1) := by decide +kernel
theorem dX6_covers_137 : decode mX6_covers.2.1 137 = .ok (.iload_n 1, 1) := by decide +kernel
theorem dX6_covers_138 : decode mX6_covers.2.1 138 = .ok (.if_icmp .ne 30, 3) := by decide +kernel
theorem dX6_covers_141 : decode mX6_covers.2.1 141 = .ok (.aload_n 0, 1) := by decide +kernel
theorem dX6_covers_142 : decode mX6_covers.2.1 142 = .ok (.iload 7, 2) := by decide +kernel
theorem dX6_covers_144 : decode mX6_covers.2.1 144 = .ok (.iload_n 2, 1) := by decide +kernel
theorem dX6_covers_145 : decode mX6_covers.2.1 145 = .ok (.iload_n 3, 1) := by decide +kernel
theorem dX6_covers_146 : decode mX6_covers.2.1 146 = .ok (.invokevirtual 205, 3) := by decide +kernel
theorem dX6_covers_149 : decode mX6_covers.2.1 149 = .ok (.iconst (-1), 1) := by decide +kernel
theorem dX6_covers_150 : decode mX6_covers.2.1 150 = .ok (.if_icmp .eq 18, 3) := by decide +kernel
theorem dX6_covers_153 : decode mX6_covers.2.1 153 = .ok (.iinc 5 1, 3) := by decide +kernel
theorem dX6_covers_156 : decode mX6_covers.2.1 156 = .ok (.iload 6, 2) := by decide +kernel
theorem dX6_covers_158 : decode mX6_covers.2.1 158 = .ok (.iconst 1, 1) := by decide +kernel
theorem dX6_covers_159 : decode mX6_covers.2.1 159 = .ok (.iload 7, 2) := by decide +kernel
theorem dX6_covers_161 : decode mX6_covers.2.1 161 = .ok (.ishl, 1) := by decide +kernel
theorem dX6_covers_162 : decode mX6_covers.2.1 162 = .ok (.ior, 1) := by decide +kernel
theorem dX6_covers_163 : decode mX6_covers.2.1 163 = .ok (.istore 6, 2) := by decide +kernel
theorem dX6_covers_165 : decode mX6_covers.2.1 165 = .ok (.goto (-42), 3) := by decide +kernel
theorem dX6_covers_168 : decode mX6_covers.2.1 168 = .ok (.iinc 7 1, 3) := by decide +kernel
theorem dX6_covers_171 : decode mX6_covers.2.1 171 = .ok (.goto (-57), 3) := by decide +kernel
theorem dX6_covers_174 : decode mX6_covers.2.1 174 = .ok (.iload 5, 2) := by decide +kernel
theorem dX6_covers_176 : decode mX6_covers.2.1 176 = .ok (.iload 4, 2) := by decide +kernel
theorem dX6_covers_178 : decode mX6_covers.2.1 178 = .ok (.if_icmp .ge 67, 3) := by decide +kernel
theorem dX6_covers_181 : decode mX6_covers.2.1 181 = .ok (.iconst 0, 1) := by decide +kernel
theorem dX6_covers_182 : decode mX6_covers.2.1 182 = .ok (.istore 7, 2) := by decide +kernel
theorem dX6_covers_184 : decode mX6_covers.2.1 184 = .ok (.iload 7, 2) := by decide +kernel
theorem dX6_covers_186 : decode mX6_covers.2.1 186 = .ok (.sipush 864, 3) := by decide +kernel
theorem dX6_covers_189 : decode mX6_covers.2.1 189 = .ok (.if_icmp .ge 23, 3) := by decide +kernel
theorem dX6_covers_192 : decode mX6_covers.2.1 192 = .ok (.aload_n 0, 1) := by decide +kernel
theorem dX6_covers_193 : decode mX6_covers.2.1 193 = .ok (.getfield 102, 3) := by decide +kernel
theorem dX6_covers_196 : decode mX6_covers.2.1 196 = .ok (.iload 7, 2) := by decide +kernel
theorem dX6_covers_198 : decode mX6_covers.2.1 198 = .ok (.aload_n 0, 1) := by decide +kernel
theorem dX6_covers_199 : decode mX6_covers.2.1 199 = .ok (.getfield 108, 3) := by decide +kernel
theorem dX6_covers_202 : decode mX6_covers.2.1 202 = .ok (.iload 7, 2) := by decide +kernel
theorem dX6_covers_204 : decode mX6_covers.2.1 204 = .ok (.iaload, 1) := by decide +kernel
theorem dX6_covers_205 : decode mX6_covers.2.1 205 = .ok (.iastore, 1) := by decide +kernel
theorem dX6_covers_206 : decode mX6_covers.2.1 206 = .ok (.iinc 7 1, 3) := by decide +kernel
theorem dX6_covers_209 : decode mX6_covers.2.1 209 = .ok (.goto (-25), 3) := by decide +kernel
theorem dX6_covers_212 : decode mX6_covers.2.1 212 = .ok (.iconst 0, 1) := by decide +kernel
theorem dX6_covers_213 : decode mX6_covers.2.1 213 = .ok (.istore 7, 2) := by decide +kernel
theorem dX6_covers_215 : decode mX6_covers.2.1 215 = .ok (.iload 7, 2) := by decide +kernel
theorem dX6_covers_217 : decode mX6_covers.2.1 217 = .ok (.bipush 6, 2) := by decide +kernel
theorem dX6_covers_219 : decode mX6_covers.2.1 219 = .ok (.if_icmp .ge 23, 3) := by decide +kernel
theorem dX6_covers_222 : decode mX6_covers.2.1 222 = .ok (.aload_n 0, 1) := by decide +kernel
theorem dX6_covers_223 : decode mX6_covers.2.1 223 = .ok (.getfield 105, 3) := by decide +kernel
theorem dX6_covers_226 : decode mX6_covers.2.1 226 = .ok (.iload 7, 2) := by decide +kernel
theorem dX6_covers_228 : decode mX6_covers.2.1 228 = .ok (.aload_n 0, 1) := by decide +kernel
theorem dX6_covers_229 : decode mX6_covers.2.1 229 = .ok (.getfield 111, 3) := by decide +kernel
theorem dX6_covers_232 : decode mX6_covers.2.1 232 = .ok (.iload 7, 2) := by decide +kernel
theorem dX6_covers_234 : decode mX6_covers.2.1 234 = .ok (.iaload, 1) := by decide +kernel
theorem dX6_covers_235 : decode mX6_covers.2.1 235 = .ok (.iastore, 1) := by decide +kernel
theorem dX6_covers_236 : decode mX6_covers.2.1 236 = .ok (.iinc 7 1, 3) := by decide +kernel
theorem dX6_covers_239 : decode mX6_covers.2.1 239 = .ok (.goto (-24), 3) := by decide +kernel
theorem dX6_covers_242 : decode mX6_covers.2.1 242 = .ok (.bipush (-4), 2) := by decide +kernel
theorem dX6_covers_244 : decode mX6_covers.2.1 244 = .ok (.ireturn, 1) := by decide +kernel
theorem dX6_covers_245 : decode mX6_covers.2.1 245 = .ok (.iload 6, 2) := by decide +kernel
theorem dX6_covers_247 : decode mX6_covers.2.1 247 = .ok (.invokestatic 141, 3) := by decide +kernel
theorem dX6_covers_250 : decode mX6_covers.2.1 250 = .ok (.ireturn, 1) := by decide +kernel
theorem dX6_spot_0 : decode mX6_spot.2.1 0 = .ok (.aload_n 0, 1) := by decide +kernel
theorem dX6_spot_1 : decode mX6_spot.2.1 1 = .ok (.iload_n 1, 1) := by decide +kernel
theorem dX6_spot_2 : decode mX6_spot.2.1 2 = .ok (.invokevirtual 191, 3) := by decide +kernel
theorem dX6_spot_5 : decode mX6_spot.2.1 5 = .ok (.ifCond .ne 6, 3) := by decide +kernel
theorem dX6_spot_8 : decode mX6_spot.2.1 8 = .ok (.bipush (-2), 2) := by decide +kernel
theorem dX6_spot_10 : decode mX6_spot.2.1 10 = .ok (.ireturn, 1) := by decide +kernel
theorem dX6_spot_11 : decode mX6_spot.2.1 11 = .ok (.aload_n 0, 1) := by decide +kernel
theorem dX6_spot_12 : decode mX6_spot.2.1 12 = .ok (.iload_n 1, 1) := by decide +kernel
theorem dX6_spot_13 : decode mX6_spot.2.1 13 = .ok (.iload_n 2, 1) := by decide +kernel
theorem dX6_spot_14 : decode mX6_spot.2.1 14 = .ok (.iload_n 3, 1) := by decide +kernel
theorem dX6_spot_15 : decode mX6_spot.2.1 15 = .ok (.invokevirtual 194, 3) := by decide +kernel
theorem dX6_spot_18 : decode mX6_spot.2.1 18 = .ok (.ifCond .eq 23, 3) := by decide +kernel
theorem dX6_spot_21 : decode mX6_spot.2.1 21 = .ok (.aload_n 0, 1) := by decide +kernel
theorem dX6_spot_22 : decode mX6_spot.2.1 22 = .ok (.getfield 102, 3) := by decide +kernel
theorem dX6_spot_25 : decode mX6_spot.2.1 25 = .ok (.sipush 144, 3) := by decide +kernel
theorem dX6_spot_28 : decode mX6_spot.2.1 28 = .ok (.iload_n 1, 1) := by decide +kernel
theorem dX6_spot_29 : decode mX6_spot.2.1 29 = .ok (.imul, 1) := by decide +kernel
theorem dX6_spot_30 : decode mX6_spot.2.1 30 = .ok (.bipush 12, 2) := by decide +kernel
theorem dX6_spot_32 : decode mX6_spot.2.1 32 = .ok (.iload_n 3, 1) := by decide +kernel
theorem dX6_spot_33 : decode mX6_spot.2.1 33 = .ok (.imul, 1) := by decide +kernel
theorem dX6_spot_34 : decode mX6_spot.2.1 34 = .ok (.iadd, 1) := by decide +kernel
theorem dX6_spot_35 : decode mX6_spot.2.1 35 = .ok (.iload_n 2, 1) := by decide +kernel
theorem dX6_spot_36 : decode mX6_spot.2.1 36 = .ok (.iadd, 1) := by decide +kernel
theorem dX6_spot_37 : decode mX6_spot.2.1 37 = .ok (.iaload, 1) := by decide +kernel
theorem dX6_spot_38 : decode mX6_spot.2.1 38 = .ok (.goto 5, 3) := by decide +kernel
theorem dX6_spot_41 : decode mX6_spot.2.1 41 = .ok (.bipush (-3), 2) := by decide +kernel
theorem dX6_spot_43 : decode mX6_spot.2.1 43 = .ok (.ireturn, 1) := by decide +kernel
theorem dX6_isDay_0 : decode mX6_isDay.2.1 0 = .ok (.iload_n 0, 1) := by decide +kernel
theorem dX6_isDay_1 : decode mX6_isDay.2.1 1 = .ok (.iconst 0, 1) := by decide +kernel
theorem dX6_isDay_2 : decode mX6_isDay.2.1 2 = .ok (.sipush 1000, 3) := by decide +kernel
theorem dX6_isDay_5 : decode mX6_isDay.2.1 5 = .ok (.invokestatic 129, 3) := by decide +kernel
theorem dX6_isDay_8 : decode mX6_isDay.2.1 8 = .ok (.ireturn, 1) := by decide +kernel
theorem dX6_days_0 : decode mX6_days.2.1 0 = .ok (.iload_n 1, 1) := by decide +kernel
theorem dX6_days_1 : decode mX6_days.2.1 1 = .ok (.iconst 1, 1) := by decide +kernel
theorem dX6_days_2 : decode mX6_days.2.1 2 = .ok (.bipush 100, 2) := by decide +kernel
theorem dX6_days_4 : decode mX6_days.2.1 4 = .ok (.invokestatic 129, 3) := by decide +kernel
theorem dX6_days_7 : decode mX6_days.2.1 7 = .ok (.ifCond .eq 15, 3) := by decide +kernel
theorem dX6_days_10 : decode mX6_days.2.1 10 = .ok (.aload_n 0, 1) := by decide +kernel
theorem dX6_days_11 : decode mX6_days.2.1 11 = .ok (.getfield 148, 3) := by decide +kernel
theorem dX6_days_14 : decode mX6_days.2.1 14 = .ok (.iload_n 1, 1) := by decide +kernel
theorem dX6_days_15 : decode mX6_days.2.1 15 = .ok (.iadd, 1) := by decide +kernel
theorem dX6_days_16 : decode mX6_days.2.1 16 = .ok (.sipush 1000, 3) := by decide +kernel
theorem dX6_days_19 : decode mX6_days.2.1 19 = .ok (.if_icmp .le 6, 3) := by decide +kernel
theorem dX6_days_22 : decode mX6_days.2.1 22 = .ok (.bipush (-3), 2) := by decide +kernel
theorem dX6_days_24 : decode mX6_days.2.1 24 = .ok (.ireturn, 1) := by decide +kernel
theorem dX6_days_25 : decode mX6_days.2.1 25 = .ok (.aload_n 0, 1) := by decide +kernel
theorem dX6_days_26 : decode mX6_days.2.1 26 = .ok (.dup, 1) := by decide +kernel
theorem dX6_days_27 : decode mX6_days.2.1 27 = .ok (.getfield 148, 3) := by decide +kernel
theorem dX6_days_30 : decode mX6_days.2.1 30 = .ok (.iload_n 1, 1) := by decide +kernel
theorem dX6_days_31 : decode mX6_days.2.1 31 = .ok (.iadd, 1) := by decide +kernel
theorem dX6_days_32 : decode mX6_days.2.1 32 = .ok (.putfield 148, 3) := by decide +kernel
theorem dX6_days_35 : decode mX6_days.2.1 35 = .ok (.aload_n 0, 1) := by decide +kernel
theorem dX6_days_36 : decode mX6_days.2.1 36 = .ok (.getfield 148, 3) := by decide +kernel
theorem dX6_days_39 : decode mX6_days.2.1 39 = .ok (.ireturn, 1) := by decide +kernel
theorem dX6_rate_0 : decode mX6_rate.2.1 0 = .ok (.iload_n 1, 1) := by decide +kernel
theorem dX6_rate_1 : decode mX6_rate.2.1 1 = .ok (.invokestatic 151, 3) := by decide +kernel
theorem dX6_rate_4 : decode mX6_rate.2.1 4 = .ok (.ifCond .ne 6, 3) := by decide +kernel
theorem dX6_rate_7 : decode mX6_rate.2.1 7 = .ok (.bipush (-2), 2) := by decide +kernel
theorem dX6_rate_9 : decode mX6_rate.2.1 9 = .ok (.ireturn, 1) := by decide +kernel
theorem dX6_rate_10 : decode mX6_rate.2.1 10 = .ok (.iload_n 2, 1) := by decide +kernel
theorem dX6_rate_11 : decode mX6_rate.2.1 11 = .ok (.invokestatic 209, 3) := by decide +kernel
theorem dX6_rate_14 : decode mX6_rate.2.1 14 = .ok (.ifCond .eq 14, 3) := by decide +kernel
theorem dX6_rate_17 : decode mX6_rate.2.1 17 = .ok (.iload_n 3, 1) := by decide +kernel
theorem dX6_rate_18 : decode mX6_rate.2.1 18 = .ok (.iconst 0, 1) := by decide +kernel
theorem dX6_rate_19 : decode mX6_rate.2.1 19 = .ok (.sipush 500, 3) := by decide +kernel
theorem dX6_rate_22 : decode mX6_rate.2.1 22 = .ok (.invokestatic 129, 3) := by decide +kernel
theorem dX6_rate_25 : decode mX6_rate.2.1 25 = .ok (.ifCond .ne 6, 3) := by decide +kernel
theorem dX6_rate_28 : decode mX6_rate.2.1 28 = .ok (.bipush (-3), 2) := by decide +kernel
theorem dX6_rate_30 : decode mX6_rate.2.1 30 = .ok (.ireturn, 1) := by decide +kernel
theorem dX6_rate_31 : decode mX6_rate.2.1 31 = .ok (.aload_n 0, 1) := by decide +kernel
theorem dX6_rate_32 : decode mX6_rate.2.1 32 = .ok (.getfield 212, 3) := by decide +kernel
theorem dX6_rate_35 : decode mX6_rate.2.1 35 = .ok (.bipush 30, 2) := by decide +kernel
theorem dX6_rate_37 : decode mX6_rate.2.1 37 = .ok (.if_icmp .ne 6, 3) := by decide +kernel
theorem dX6_rate_40 : decode mX6_rate.2.1 40 = .ok (.bipush (-6), 2) := by decide +kernel
theorem dX6_rate_42 : decode mX6_rate.2.1 42 = .ok (.ireturn, 1) := by decide +kernel
theorem dX6_rate_43 : decode mX6_rate.2.1 43 = .ok (.aload_n 0, 1) := by decide +kernel
theorem dX6_rate_44 : decode mX6_rate.2.1 44 = .ok (.getfield 114, 3) := by decide +kernel
theorem dX6_rate_47 : decode mX6_rate.2.1 47 = .ok (.aload_n 0, 1) := by decide +kernel
theorem dX6_rate_48 : decode mX6_rate.2.1 48 = .ok (.getfield 212, 3) := by decide +kernel
theorem dX6_rate_51 : decode mX6_rate.2.1 51 = .ok (.iload_n 1, 1) := by decide +kernel
theorem dX6_rate_52 : decode mX6_rate.2.1 52 = .ok (.iastore, 1) := by decide +kernel
theorem dX6_rate_53 : decode mX6_rate.2.1 53 = .ok (.aload_n 0, 1) := by decide +kernel
theorem dX6_rate_54 : decode mX6_rate.2.1 54 = .ok (.getfield 117, 3) := by decide +kernel
theorem dX6_rate_57 : decode mX6_rate.2.1 57 = .ok (.aload_n 0, 1) := by decide +kernel
theorem dX6_rate_58 : decode mX6_rate.2.1 58 = .ok (.getfield 212, 3) := by decide +kernel
theorem dX6_rate_61 : decode mX6_rate.2.1 61 = .ok (.iload_n 2, 1) := by decide +kernel
theorem dX6_rate_62 : decode mX6_rate.2.1 62 = .ok (.iastore, 1) := by decide +kernel
theorem dX6_rate_63 : decode mX6_rate.2.1 63 = .ok (.aload_n 0, 1) := by decide +kernel
theorem dX6_rate_64 : decode mX6_rate.2.1 64 = .ok (.getfield 120, 3) := by decide +kernel
theorem dX6_rate_67 : decode mX6_rate.2.1 67 = .ok (.aload_n 0, 1) := by decide +kernel
theorem dX6_rate_68 : decode mX6_rate.2.1 68 = .ok (.getfield 212, 3) := by decide +kernel
theorem dX6_rate_71 : decode mX6_rate.2.1 71 = .ok (.iload_n 3, 1) := by decide +kernel
theorem dX6_rate_72 : decode mX6_rate.2.1 72 = .ok (.iastore, 1) := by decide +kernel
theorem dX6_rate_73 : decode mX6_rate.2.1 73 = .ok (.aload_n 0, 1) := by decide +kernel
theorem dX6_rate_74 : decode mX6_rate.2.1 74 = .ok (.getfield 123, 3) := by decide +kernel
theorem dX6_rate_77 : decode mX6_rate.2.1 77 = .ok (.aload_n 0, 1) := by decide +kernel
theorem dX6_rate_78 : decode mX6_rate.2.1 78 = .ok (.getfield 212, 3) := by decide +kernel
theorem dX6_rate_81 : decode mX6_rate.2.1 81 = .ok (.aload_n 0, 1) := by decide +kernel
theorem dX6_rate_82 : decode mX6_rate.2.1 82 = .ok (.getfield 148, 3) := by decide +kernel
theorem dX6_rate_85 : decode mX6_rate.2.1 85 = .ok (.iastore, 1) := by decide +kernel
theorem dX6_rate_86 : decode mX6_rate.2.1 86 = .ok (.aload_n 0, 1) := by decide +kernel
theorem dX6_rate_87 : decode mX6_rate.2.1 87 = .ok (.dup, 1) := by decide +kernel
theorem dX6_rate_88 : decode mX6_rate.2.1 88 = .ok (.getfield 212, 3) := by decide +kernel
theorem dX6_rate_91 : decode mX6_rate.2.1 91 = .ok (.iconst 1, 1) := by decide +kernel
theorem dX6_rate_92 : decode mX6_rate.2.1 92 = .ok (.iadd, 1) := by decide +kernel
theorem dX6_rate_93 : decode mX6_rate.2.1 93 = .ok (.putfield 212, 3) := by decide +kernel
theorem dX6_rate_96 : decode mX6_rate.2.1 96 = .ok (.aload_n 0, 1) := by decide +kernel
theorem dX6_rate_97 : decode mX6_rate.2.1 97 = .ok (.getfield 212, 3) := by decide +kernel
theorem dX6_rate_100 : decode mX6_rate.2.1 100 = .ok (.ireturn, 1) := by decide +kernel
theorem dX6_rateOf_0 : decode mX6_rateOf.2.1 0 = .ok (.iconst (-1), 1) := by decide +kernel
theorem dX6_rateOf_1 : decode mX6_rateOf.2.1 1 = .ok (.istore 4, 2) := by decide +kernel
theorem dX6_rateOf_3 : decode mX6_rateOf.2.1 3 = .ok (.iconst 0, 1) := by decide +kernel
theorem dX6_rateOf_4 : decode mX6_rateOf.2.1 4 = .ok (.istore 5, 2) := by decide +kernel
theorem dX6_rateOf_6 : decode mX6_rateOf.2.1 6 = .ok (.iload 5, 2) := by decide +kernel
theorem dX6_rateOf_8 : decode mX6_rateOf.2.1 8 = .ok (.aload_n 0, 1) := by decide +kernel
theorem dX6_rateOf_9 : decode mX6_rateOf.2.1 9 = .ok (.getfield 212, 3) := by decide +kernel
theorem dX6_rateOf_12 : decode mX6_rateOf.2.1 12 = .ok (.if_icmp .ge 86, 3) := by decide +kernel
theorem dX6_rateOf_15 : decode mX6_rateOf.2.1 15 = .ok (.aload_n 0, 1) := by decide +kernel
theorem dX6_rateOf_16 : decode mX6_rateOf.2.1 16 = .ok (.getfield 114, 3) := by decide +kernel
theorem dX6_rateOf_19 : decode mX6_rateOf.2.1 19 = .ok (.iload 5, 2) := by decide +kernel
theorem dX6_rateOf_21 : decode mX6_rateOf.2.1 21 = .ok (.iaload, 1) := by decide +kernel
theorem dX6_rateOf_22 : decode mX6_rateOf.2.1 22 = .ok (.iload_n 1, 1) := by decide +kernel
theorem dX6_rateOf_23 : decode mX6_rateOf.2.1 23 = .ok (.if_icmp .ne 29, 3) := by decide +kernel
theorem dX6_rateOf_26 : decode mX6_rateOf.2.1 26 = .ok (.aload_n 0, 1) := by decide +kernel
theorem dX6_rateOf_27 : decode mX6_rateOf.2.1 27 = .ok (.getfield 123, 3) := by decide +kernel
theorem dX6_rateOf_30 : decode mX6_rateOf.2.1 30 = .ok (.iload 5, 2) := by decide +kernel
theorem dX6_rateOf_32 : decode mX6_rateOf.2.1 32 = .ok (.iaload, 1) := by decide +kernel
theorem dX6_rateOf_33 : decode mX6_rateOf.2.1 33 = .ok (.iload_n 3, 1) := by decide +kernel
theorem dX6_rateOf_34 : decode mX6_rateOf.2.1 34 = .ok (.if_icmp .gt 18, 3) := by decide +kernel
theorem dX6_rateOf_37 : decode mX6_rateOf.2.1 37 = .ok (.aload_n 0, 1) := by decide +kernel
theorem dX6_rateOf_38 : decode mX6_rateOf.2.1 38 = .ok (.getfield 117, 3) := by decide +kernel
theorem dX6_rateOf_41 : decode mX6_rateOf.2.1 41 = .ok (.iload 5, 2) := by decide +kernel
theorem dX6_rateOf_43 : decode mX6_rateOf.2.1 43 = .ok (.iaload, 1) := by decide +kernel
theorem dX6_rateOf_44 : decode mX6_rateOf.2.1 44 = .ok (.iload_n 2, 1) := by decide +kernel
theorem dX6_rateOf_45 : decode mX6_rateOf.2.1 45 = .ok (.if_icmp .gt 7, 3) := by decide +kernel
theorem dX6_rateOf_48 : decode mX6_rateOf.2.1 48 = .ok (.iconst 1, 1) := by decide +kernel
theorem dX6_rateOf_49 : decode mX6_rateOf.2.1 49 = .ok (.goto 4, 3) := by decide +kernel
theorem dX6_rateOf_52 : decode mX6_rateOf.2.1 52 = .ok (.iconst 0, 1) := by decide +kernel
theorem dX6_rateOf_53 : decode mX6_rateOf.2.1 53 = .ok (.istore 6, 2) := by decide +kernel
theorem dX6_rateOf_55 : decode mX6_rateOf.2.1 55 = .ok (.iload 6, 2) := by decide +kernel
theorem dX6_rateOf_57 : decode mX6_rateOf.2.1 57 = .ok (.ifCond .eq 31, 3) := by decide +kernel
theorem dX6_rateOf_60 : decode mX6_rateOf.2.1 60 = .ok (.iload 4, 2) := by decide +kernel
theorem dX6_rateOf_62 : decode mX6_rateOf.2.1 62 = .ok (.iconst (-1), 1) := by decide +kernel
theorem dX6_rateOf_63 : decode mX6_rateOf.2.1 63 = .ok (.if_icmp .eq 20, 3) := by decide +kernel
theorem dX6_rateOf_66 : decode mX6_rateOf.2.1 66 = .ok (.aload_n 0, 1) := by decide +kernel
theorem dX6_rateOf_67 : decode mX6_rateOf.2.1 67 = .ok (.getfield 117, 3) := by decide +kernel
theorem dX6_rateOf_70 : decode mX6_rateOf.2.1 70 = .ok (.iload 5, 2) := by decide +kernel
theorem dX6_rateOf_72 : decode mX6_rateOf.2.1 72 = .ok (.iaload, 1) := by decide +kernel
theorem dX6_rateOf_73 : decode mX6_rateOf.2.1 73 = .ok (.aload_n 0, 1) := by decide +kernel
theorem dX6_rateOf_74 : decode mX6_rateOf.2.1 74 = .ok (.getfield 117, 3) := by decide +kernel
theorem dX6_rateOf_77 : decode mX6_rateOf.2.1 77 = .ok (.iload 4, 2) := by decide +kernel
theorem dX6_rateOf_79 : decode mX6_rateOf.2.1 79 = .ok (.iaload, 1) := by decide +kernel
theorem dX6_rateOf_80 : decode mX6_rateOf.2.1 80 = .ok (.if_icmp .lt 8, 3) := by decide +kernel
theorem dX6_rateOf_83 : decode mX6_rateOf.2.1 83 = .ok (.iload 5, 2) := by decide +kernel
theorem dX6_rateOf_85 : decode mX6_rateOf.2.1 85 = .ok (.goto 5, 3) := by decide +kernel
theorem dX6_rateOf_88 : decode mX6_rateOf.2.1 88 = .ok (.iload 4, 2) := by decide +kernel
theorem dX6_rateOf_90 : decode mX6_rateOf.2.1 90 = .ok (.istore 4, 2) := by decide +kernel
theorem dX6_rateOf_92 : decode mX6_rateOf.2.1 92 = .ok (.iinc 5 1, 3) := by decide +kernel
theorem dX6_rateOf_95 : decode mX6_rateOf.2.1 95 = .ok (.goto (-89), 3) := by decide +kernel
theorem dX6_rateOf_98 : decode mX6_rateOf.2.1 98 = .ok (.iload 4, 2) := by decide +kernel
theorem dX6_rateOf_100 : decode mX6_rateOf.2.1 100 = .ok (.iconst (-1), 1) := by decide +kernel
theorem dX6_rateOf_101 : decode mX6_rateOf.2.1 101 = .ok (.if_icmp .ne 7, 3) := by decide +kernel
theorem dX6_rateOf_104 : decode mX6_rateOf.2.1 104 = .ok (.iconst 0, 1) := by decide +kernel
theorem dX6_rateOf_105 : decode mX6_rateOf.2.1 105 = .ok (.goto 10, 3) := by decide +kernel
theorem dX6_rateOf_108 : decode mX6_rateOf.2.1 108 = .ok (.aload_n 0, 1) := by decide +kernel
theorem dX6_rateOf_109 : decode mX6_rateOf.2.1 109 = .ok (.getfield 120, 3) := by decide +kernel
theorem dX6_rateOf_112 : decode mX6_rateOf.2.1 112 = .ok (.iload 4, 2) := by decide +kernel
theorem dX6_rateOf_114 : decode mX6_rateOf.2.1 114 = .ok (.iaload, 1) := by decide +kernel
theorem dX6_rateOf_115 : decode mX6_rateOf.2.1 115 = .ok (.ireturn, 1) := by decide +kernel
theorem dX6_rateAt_0 : decode mX6_rateAt.2.1 0 = .ok (.iload_n 1, 1) := by decide +kernel
theorem dX6_rateAt_1 : decode mX6_rateAt.2.1 1 = .ok (.invokestatic 151, 3) := by decide +kernel
theorem dX6_rateAt_4 : decode mX6_rateAt.2.1 4 = .ok (.ifCond .ne 6, 3) := by decide +kernel
theorem dX6_rateAt_7 : decode mX6_rateAt.2.1 7 = .ok (.bipush (-2), 2) := by decide +kernel
theorem dX6_rateAt_9 : decode mX6_rateAt.2.1 9 = .ok (.ireturn, 1) := by decide +kernel
theorem dX6_rateAt_10 : decode mX6_rateAt.2.1 10 = .ok (.iload_n 2, 1) := by decide +kernel
theorem dX6_rateAt_11 : decode mX6_rateAt.2.1 11 = .ok (.invokestatic 209, 3) := by decide +kernel
theorem dX6_rateAt_14 : decode mX6_rateAt.2.1 14 = .ok (.ifCond .eq 20, 3) := by decide +kernel
theorem dX6_rateAt_17 : decode mX6_rateAt.2.1 17 = .ok (.iload_n 3, 1) := by decide +kernel
theorem dX6_rateAt_18 : decode mX6_rateAt.2.1 18 = .ok (.invokestatic 209, 3) := by decide +kernel
theorem dX6_rateAt_21 : decode mX6_rateAt.2.1 21 = .ok (.ifCond .eq 13, 3) := by decide +kernel
theorem dX6_rateAt_24 : decode mX6_rateAt.2.1 24 = .ok (.aload_n 0, 1) := by decide +kernel
theorem dX6_rateAt_25 : decode mX6_rateAt.2.1 25 = .ok (.iload_n 1, 1) := by decide +kernel
theorem dX6_rateAt_26 : decode mX6_rateAt.2.1 26 = .ok (.iload_n 2, 1) := by decide +kernel
theorem dX6_rateAt_27 : decode mX6_rateAt.2.1 27 = .ok (.iload_n 3, 1) := by decide +kernel
theorem dX6_rateAt_28 : decode mX6_rateAt.2.1 28 = .ok (.invokevirtual 215, 3) := by decide +kernel
theorem dX6_rateAt_31 : decode mX6_rateAt.2.1 31 = .ok (.goto 5, 3) := by decide +kernel
theorem dX6_rateAt_34 : decode mX6_rateAt.2.1 34 = .ok (.bipush (-3), 2) := by decide +kernel
theorem dX6_rateAt_36 : decode mX6_rateAt.2.1 36 = .ok (.ireturn, 1) := by decide +kernel
theorem dX6_wages_0 : decode mX6_wages.2.1 0 = .ok (.iload_n 1, 1) := by decide +kernel
theorem dX6_wages_1 : decode mX6_wages.2.1 1 = .ok (.invokestatic 209, 3) := by decide +kernel
theorem dX6_wages_4 : decode mX6_wages.2.1 4 = .ok (.ifCond .eq 17, 3) := by decide +kernel
theorem dX6_wages_7 : decode mX6_wages.2.1 7 = .ok (.iload_n 2, 1) := by decide +kernel
theorem dX6_wages_8 : decode mX6_wages.2.1 8 = .ok (.invokestatic 209, 3) := by decide +kernel
theorem dX6_wages_11 : decode mX6_wages.2.1 11 = .ok (.ifCond .eq 10, 3) := by decide +kernel
theorem dX6_wages_14 : decode mX6_wages.2.1 14 = .ok (.iload_n 3, 1) := by decide +kernel
theorem dX6_wages_15 : decode mX6_wages.2.1 15 = .ok (.invokestatic 209, 3) := by decide +kernel
theorem dX6_wages_18 : decode mX6_wages.2.1 18 = .ok (.ifCond .ne 6, 3) := by decide +kernel
theorem dX6_wages_21 : decode mX6_wages.2.1 21 = .ok (.bipush (-3), 2) := by decide +kernel
theorem dX6_wages_23 : decode mX6_wages.2.1 23 = .ok (.ireturn, 1) := by decide +kernel
theorem dX6_wages_24 : decode mX6_wages.2.1 24 = .ok (.iconst 0, 1) := by decide +kernel
theorem dX6_wages_25 : decode mX6_wages.2.1 25 = .ok (.istore 4, 2) := by decide +kernel
theorem dX6_wages_27 : decode mX6_wages.2.1 27 = .ok (.iconst 0, 1) := by decide +kernel
theorem dX6_wages_28 : decode mX6_wages.2.1 28 = .ok (.istore 5, 2) := by decide +kernel
theorem dX6_wages_30 : decode mX6_wages.2.1 30 = .ok (.iload 5, 2) := by decide +kernel
theorem dX6_wages_32 : decode mX6_wages.2.1 32 = .ok (.aload_n 0, 1) := by decide +kernel
theorem dX6_wages_33 : decode mX6_wages.2.1 33 = .ok (.getfield 145, 3) := by decide +kernel
theorem dX6_wages_36 : decode mX6_wages.2.1 36 = .ok (.if_icmp .ge 52, 3) := by decide +kernel
theorem dX6_wages_39 : decode mX6_wages.2.1 39 = .ok (.iload 4, 2) := by decide +kernel
theorem dX6_wages_41 : decode mX6_wages.2.1 41 = .ok (.aload_n 0, 1) := by decide +kernel
theorem dX6_wages_42 : decode mX6_wages.2.1 42 = .ok (.getfield 47, 3) := by decide +kernel
theorem dX6_wages_45 : decode mX6_wages.2.1 45 = .ok (.iload 5, 2) := by decide +kernel
theorem dX6_wages_47 : decode mX6_wages.2.1 47 = .ok (.iaload, 1) := by decide +kernel
theorem dX6_wages_48 : decode mX6_wages.2.1 48 = .ok (.iload_n 1, 1) := by decide +kernel
theorem dX6_wages_49 : decode mX6_wages.2.1 49 = .ok (.iload_n 2, 1) := by decide +kernel
theorem dX6_wages_50 : decode mX6_wages.2.1 50 = .ok (.invokestatic 129, 3) := by decide +kernel
theorem dX6_wages_53 : decode mX6_wages.2.1 53 = .ok (.ifCond .eq 25, 3) := by decide +kernel
theorem dX6_wages_56 : decode mX6_wages.2.1 56 = .ok (.aload_n 0, 1) := by decide +kernel
theorem dX6_wages_57 : decode mX6_wages.2.1 57 = .ok (.aload_n 0, 1) := by decide +kernel
theorem dX6_wages_58 : decode mX6_wages.2.1 58 = .ok (.getfield 44, 3) := by decide +kernel
theorem dX6_wages_61 : decode mX6_wages.2.1 61 = .ok (.iload 5, 2) := by decide +kernel
theorem dX6_wages_63 : decode mX6_wages.2.1 63 = .ok (.iaload, 1) := by decide +kernel
theorem dX6_wages_64 : decode mX6_wages.2.1 64 = .ok (.aload_n 0, 1) := by decide +kernel
theorem dX6_wages_65 : decode mX6_wages.2.1 65 = .ok (.getfield 47, 3) := by decide +kernel
theorem dX6_wages_68 : decode mX6_wages.2.1 68 = .ok (.iload 5, 2) := by decide +kernel
theorem dX6_wages_70 : decode mX6_wages.2.1 70 = .ok (.iaload, 1) := by decide +kernel
theorem dX6_wages_71 : decode mX6_wages.2.1 71 = .ok (.iload_n 3, 1) := by decide +kernel
theorem dX6_wages_72 : decode mX6_wages.2.1 72 = .ok (.invokevirtual 215, 3) := by decide +kernel
theorem dX6_wages_75 : decode mX6_wages.2.1 75 = .ok (.goto 4, 3) := by decide +kernel
theorem dX6_wages_78 : decode mX6_wages.2.1 78 = .ok (.iconst 0, 1) := by decide +kernel
theorem dX6_wages_79 : decode mX6_wages.2.1 79 = .ok (.iadd, 1) := by decide +kernel
theorem dX6_wages_80 : decode mX6_wages.2.1 80 = .ok (.istore 4, 2) := by decide +kernel
theorem dX6_wages_82 : decode mX6_wages.2.1 82 = .ok (.iinc 5 1, 3) := by decide +kernel
theorem dX6_wages_85 : decode mX6_wages.2.1 85 = .ok (.goto (-55), 3) := by decide +kernel
theorem dX6_wages_88 : decode mX6_wages.2.1 88 = .ok (.iload 4, 2) := by decide +kernel
theorem dX6_wages_90 : decode mX6_wages.2.1 90 = .ok (.ireturn, 1) := by decide +kernel
theorem dX6_count_0 : decode mX6_count.2.1 0 = .ok (.aload_n 0, 1) := by decide +kernel
theorem dX6_count_1 : decode mX6_count.2.1 1 = .ok (.invokevirtual 175, 3) := by decide +kernel
theorem dX6_count_4 : decode mX6_count.2.1 4 = .ok (.iload_n 1, 1) := by decide +kernel
theorem dX6_count_5 : decode mX6_count.2.1 5 = .ok (.tableswitch 78 0 6 #[43, 48, 53, 58, 63, 68, 73], 43) := by decide +kernel
theorem dX6_count_48 : decode mX6_count.2.1 48 = .ok (.aload_n 0, 1) := by decide +kernel
theorem dX6_count_49 : decode mX6_count.2.1 49 = .ok (.getfield 126, 3) := by decide +kernel
theorem dX6_count_52 : decode mX6_count.2.1 52 = .ok (.ireturn, 1) := by decide +kernel
theorem dX6_count_53 : decode mX6_count.2.1 53 = .ok (.aload_n 0, 1) := by decide +kernel
theorem dX6_count_54 : decode mX6_count.2.1 54 = .ok (.getfield 188, 3) := by decide +kernel
theorem dX6_count_57 : decode mX6_count.2.1 57 = .ok (.ireturn, 1) := by decide +kernel
theorem dX6_count_58 : decode mX6_count.2.1 58 = .ok (.aload_n 0, 1) := by decide +kernel
theorem dX6_count_59 : decode mX6_count.2.1 59 = .ok (.getfield 145, 3) := by decide +kernel
theorem dX6_count_62 : decode mX6_count.2.1 62 = .ok (.ireturn, 1) := by decide +kernel
theorem dX6_count_63 : decode mX6_count.2.1 63 = .ok (.aload_n 0, 1) := by decide +kernel
theorem dX6_count_64 : decode mX6_count.2.1 64 = .ok (.getfield 148, 3) := by decide +kernel
theorem dX6_count_67 : decode mX6_count.2.1 67 = .ok (.ireturn, 1) := by decide +kernel
theorem dX6_count_68 : decode mX6_count.2.1 68 = .ok (.aload_n 0, 1) := by decide +kernel
theorem dX6_count_69 : decode mX6_count.2.1 69 = .ok (.getfield 165, 3) := by decide +kernel
theorem dX6_count_72 : decode mX6_count.2.1 72 = .ok (.ireturn, 1) := by decide +kernel
theorem dX6_count_73 : decode mX6_count.2.1 73 = .ok (.aload_n 0, 1) := by decide +kernel
theorem dX6_count_74 : decode mX6_count.2.1 74 = .ok (.getfield 168, 3) := by decide +kernel
theorem dX6_count_77 : decode mX6_count.2.1 77 = .ok (.ireturn, 1) := by decide +kernel
theorem dX6_count_78 : decode mX6_count.2.1 78 = .ok (.aload_n 0, 1) := by decide +kernel
theorem dX6_count_79 : decode mX6_count.2.1 79 = .ok (.getfield 212, 3) := by decide +kernel
theorem dX6_count_82 : decode mX6_count.2.1 82 = .ok (.ireturn, 1) := by decide +kernel
theorem dX6_count_83 : decode mX6_count.2.1 83 = .ok (.bipush (-3), 2) := by decide +kernel
theorem dX6_count_85 : decode mX6_count.2.1 85 = .ok (.ireturn, 1) := by decide +kernel
