theorem dL_areRows_370 : decode cL_areRows 370 = .ok (.iconst 0, 1) := by decide +kernel
theorem dL_areRows_371 : decode cL_areRows 371 = .ok (.istore 5, 2) := by decide +kernel
theorem dL_areRows_373 : decode cL_areRows 373 = .ok (.iinc 6 1, 3) := by decide +kernel
theorem dL_areRows_376 : decode cL_areRows 376 = .ok (.goto (-326), 3) := by decide +kernel
theorem dL_areRows_379 : decode cL_areRows 379 = .ok (.iload 5, 2) := by decide +kernel
theorem dL_areRows_381 : decode cL_areRows 381 = .ok (.ifCond .eq 44, 3) := by decide +kernel
theorem dL_areRows_384 : decode cL_areRows 384 = .ok (.iload_n 2, 1) := by decide +kernel
theorem dL_areRows_385 : decode cL_areRows 385 = .ok (.aload_n 0, 1) := by decide +kernel
theorem dL_areRows_386 : decode cL_areRows 386 = .ok (.bipush 6, 2) := by decide +kernel
theorem dL_areRows_388 : decode cL_areRows 388 = .ok (.invokevirtual 14, 3) := by decide +kernel
theorem dL_areRows_391 : decode cL_areRows 391 = .ok (.if_icmp .ne 34, 3) := by decide +kernel
theorem dL_areRows_394 : decode cL_areRows 394 = .ok (.iload_n 3, 1) := by decide +kernel
theorem dL_areRows_395 : decode cL_areRows 395 = .ok (.bipush (-5), 2) := by decide +kernel
theorem dL_areRows_397 : decode cL_areRows 397 = .ok (.if_icmp .eq 24, 3) := by decide +kernel
theorem dL_areRows_400 : decode cL_areRows 400 = .ok (.aload_n 0, 1) := by decide +kernel
theorem dL_areRows_401 : decode cL_areRows 401 = .ok (.iload_n 3, 1) := by decide +kernel
theorem dL_areRows_402 : decode cL_areRows 402 = .ok (.iconst 1, 1) := by decide +kernel
theorem dL_areRows_403 : decode cL_areRows 403 = .ok (.invokevirtual 24, 3) := by decide +kernel
theorem dL_areRows_406 : decode cL_areRows 406 = .ok (.aload_n 0, 1) := by decide +kernel
theorem dL_areRows_407 : decode cL_areRows 407 = .ok (.iload_n 3, 1) := by decide +kernel
theorem dL_areRows_408 : decode cL_areRows 408 = .ok (.iconst 2, 1) := by decide +kernel
theorem dL_areRows_409 : decode cL_areRows 409 = .ok (.invokevirtual 24, 3) := by decide +kernel
theorem dL_areRows_412 : decode cL_areRows 412 = .ok (.if_icmp .ge 13, 3) := by decide +kernel
theorem dL_areRows_415 : decode cL_areRows 415 = .ok (.iload 4, 2) := by decide +kernel
theorem dL_areRows_417 : decode cL_areRows 417 = .ok (.iconst 1, 1) := by decide +kernel
theorem dL_areRows_418 : decode cL_areRows 418 = .ok (.if_icmp .le 7, 3) := by decide +kernel
theorem dL_areRows_421 : decode cL_areRows 421 = .ok (.iconst 1, 1) := by decide +kernel
theorem dL_areRows_422 : decode cL_areRows 422 = .ok (.goto 4, 3) := by decide +kernel
theorem dL_areRows_425 : decode cL_areRows 425 = .ok (.iconst 0, 1) := by decide +kernel
theorem dL_areRows_426 : decode cL_areRows 426 = .ok (.ireturn, 1) := by decide +kernel
theorem dL_areCrews_0 : decode cL_areCrews 0 = .ok (.iconst 0, 1) := by decide +kernel
theorem dL_areCrews_1 : decode cL_areCrews 1 = .ok (.istore_n 1, 1) := by decide +kernel
theorem dL_areCrews_2 : decode cL_areCrews 2 = .ok (.iconst 1, 1) := by decide +kernel
theorem dL_areCrews_3 : decode cL_areCrews 3 = .ok (.istore_n 2, 1) := by decide +kernel
theorem dL_areCrews_4 : decode cL_areCrews 4 = .ok (.iconst 0, 1) := by decide +kernel
theorem dL_areCrews_5 : decode cL_areCrews 5 = .ok (.istore_n 3, 1) := by decide +kernel
theorem dL_areCrews_6 : decode cL_areCrews 6 = .ok (.iload_n 3, 1) := by decide +kernel
theorem dL_areCrews_7 : decode cL_areCrews 7 = .ok (.iconst 3, 1) := by decide +kernel
theorem dL_areCrews_8 : decode cL_areCrews 8 = .ok (.if_icmp .ge 316, 3) := by decide +kernel
theorem dL_areCrews_11 : decode cL_areCrews 11 = .ok (.iload_n 2, 1) := by decide +kernel
theorem dL_areCrews_12 : decode cL_areCrews 12 = .ok (.ifCond .eq 312, 3) := by decide +kernel
theorem dL_areCrews_15 : decode cL_areCrews 15 = .ok (.aload_n 0, 1) := by decide +kernel
theorem dL_areCrews_16 : decode cL_areCrews 16 = .ok (.iload_n 3, 1) := by decide +kernel
theorem dL_areCrews_17 : decode cL_areCrews 17 = .ok (.iconst 0, 1) := by decide +kernel
theorem dL_areCrews_18 : decode cL_areCrews 18 = .ok (.invokevirtual 20, 3) := by decide +kernel
theorem dL_areCrews_21 : decode cL_areCrews 21 = .ok (.istore 4, 2) := by decide +kernel
theorem dL_areCrews_23 : decode cL_areCrews 23 = .ok (.aload_n 0, 1) := by decide +kernel
theorem dL_areCrews_24 : decode cL_areCrews 24 = .ok (.iload_n 3, 1) := by decide +kernel
theorem dL_areCrews_25 : decode cL_areCrews 25 = .ok (.iconst 1, 1) := by decide +kernel
theorem dL_areCrews_26 : decode cL_areCrews 26 = .ok (.invokevirtual 20, 3) := by decide +kernel
theorem dL_areCrews_29 : decode cL_areCrews 29 = .ok (.istore 5, 2) := by decide +kernel
theorem dL_areCrews_31 : decode cL_areCrews 31 = .ok (.aload_n 0, 1) := by decide +kernel
theorem dL_areCrews_32 : decode cL_areCrews 32 = .ok (.iload_n 3, 1) := by decide +kernel
theorem dL_areCrews_33 : decode cL_areCrews 33 = .ok (.invokevirtual 39, 3) := by decide +kernel
theorem dL_areCrews_36 : decode cL_areCrews 36 = .ok (.istore 6, 2) := by decide +kernel
theorem dL_areCrews_38 : decode cL_areCrews 38 = .ok (.iload_n 1, 1) := by decide +kernel
theorem dL_areCrews_39 : decode cL_areCrews 39 = .ok (.aload_n 0, 1) := by decide +kernel
theorem dL_areCrews_40 : decode cL_areCrews 40 = .ok (.iload_n 3, 1) := by decide +kernel
theorem dL_areCrews_41 : decode cL_areCrews 41 = .ok (.iconst 2, 1) := by decide +kernel
theorem dL_areCrews_42 : decode cL_areCrews 42 = .ok (.invokevirtual 20, 3) := by decide +kernel
theorem dL_areCrews_45 : decode cL_areCrews 45 = .ok (.iadd, 1) := by decide +kernel
theorem dL_areCrews_46 : decode cL_areCrews 46 = .ok (.istore_n 1, 1) := by decide +kernel
theorem dL_areCrews_47 : decode cL_areCrews 47 = .ok (.iload 4, 2) := by decide +kernel
theorem dL_areCrews_49 : decode cL_areCrews 49 = .ok (.ifCond .lt 68, 3) := by decide +kernel
theorem dL_areCrews_52 : decode cL_areCrews 52 = .ok (.iload 4, 2) := by decide +kernel
theorem dL_areCrews_54 : decode cL_areCrews 54 = .ok (.bipush 64, 2) := by decide +kernel
theorem dL_areCrews_56 : decode cL_areCrews 56 = .ok (.if_icmp .ge 61, 3) := by decide +kernel
theorem dL_areCrews_59 : decode cL_areCrews 59 = .ok (.iload 5, 2) := by decide +kernel
theorem dL_areCrews_61 : decode cL_areCrews 61 = .ok (.ifCond .lt 56, 3) := by decide +kernel
theorem dL_areCrews_64 : decode cL_areCrews 64 = .ok (.iload 5, 2) := by decide +kernel
theorem dL_areCrews_66 : decode cL_areCrews 66 = .ok (.bipush 30, 2) := by decide +kernel
theorem dL_areCrews_68 : decode cL_areCrews 68 = .ok (.if_icmp .gt 49, 3) := by decide +kernel
theorem dL_areCrews_71 : decode cL_areCrews 71 = .ok (.aload_n 0, 1) := by decide +kernel
theorem dL_areCrews_72 : decode cL_areCrews 72 = .ok (.iload_n 3, 1) := by decide +kernel
theorem dL_areCrews_73 : decode cL_areCrews 73 = .ok (.iload 4, 2) := by decide +kernel
theorem dL_areCrews_75 : decode cL_areCrews 75 = .ok (.invokevirtual 42, 3) := by decide +kernel
theorem dL_areCrews_78 : decode cL_areCrews 78 = .ok (.ifCond .ne 39, 3) := by decide +kernel
theorem dL_areCrews_81 : decode cL_areCrews 81 = .ok (.aload_n 0, 1) := by decide +kernel
theorem dL_areCrews_82 : decode cL_areCrews 82 = .ok (.iload_n 3, 1) := by decide +kernel
theorem dL_areCrews_83 : decode cL_areCrews 83 = .ok (.iconst 2, 1) := by decide +kernel
theorem dL_areCrews_84 : decode cL_areCrews 84 = .ok (.invokevirtual 20, 3) := by decide +kernel
theorem dL_areCrews_87 : decode cL_areCrews 87 = .ok (.aload_n 0, 1) := by decide +kernel
theorem dL_areCrews_88 : decode cL_areCrews 88 = .ok (.iload_n 3, 1) := by decide +kernel
theorem dL_areCrews_89 : decode cL_areCrews 89 = .ok (.iconst 3, 1) := by decide +kernel
theorem dL_areCrews_90 : decode cL_areCrews 90 = .ok (.invokevirtual 20, 3) := by decide +kernel
theorem dL_areCrews_93 : decode cL_areCrews 93 = .ok (.if_icmp .lt 24, 3) := by decide +kernel
theorem dL_areCrews_96 : decode cL_areCrews 96 = .ok (.iload 6, 2) := by decide +kernel
theorem dL_areCrews_98 : decode cL_areCrews 98 = .ok (.bipush (-5), 2) := by decide +kernel
theorem dL_areCrews_100 : decode cL_areCrews 100 = .ok (.if_icmp .eq 13, 3) := by decide +kernel
theorem dL_areCrews_103 : decode cL_areCrews 103 = .ok (.aload_n 0, 1) := by decide +kernel
theorem dL_areCrews_104 : decode cL_areCrews 104 = .ok (.iload_n 3, 1) := by decide +kernel
theorem dL_areCrews_105 : decode cL_areCrews 105 = .ok (.iload 6, 2) := by decide +kernel
theorem dL_areCrews_107 : decode cL_areCrews 107 = .ok (.invokevirtual 45, 3) := by decide +kernel
theorem dL_areCrews_110 : decode cL_areCrews 110 = .ok (.ifCond .ne 7, 3) := by decide +kernel
theorem dL_areCrews_113 : decode cL_areCrews 113 = .ok (.iconst 1, 1) := by decide +kernel
theorem dL_areCrews_114 : decode cL_areCrews 114 = .ok (.goto 4, 3) := by decide +kernel
theorem dL_areCrews_117 : decode cL_areCrews 117 = .ok (.iconst 0, 1) := by decide +kernel
theorem dL_areCrews_118 : decode cL_areCrews 118 = .ok (.istore_n 2, 1) := by decide +kernel
theorem dL_areCrews_119 : decode cL_areCrews 119 = .ok (.iload_n 3, 1) := by decide +kernel
theorem dL_areCrews_120 : decode cL_areCrews 120 = .ok (.istore 7, 2) := by decide +kernel
theorem dL_areCrews_122 : decode cL_areCrews 122 = .ok (.iload 7, 2) := by decide +kernel
theorem dL_areCrews_124 : decode cL_areCrews 124 = .ok (.bipush 64, 2) := by decide +kernel
theorem dL_areCrews_126 : decode cL_areCrews 126 = .ok (.if_icmp .ge 192, 3) := by decide +kernel
theorem dL_areCrews_129 : decode cL_areCrews 129 = .ok (.iload_n 2, 1) := by decide +kernel
theorem dL_areCrews_130 : decode cL_areCrews 130 = .ok (.ifCond .eq 188, 3) := by decide +kernel
theorem dL_areCrews_133 : decode cL_areCrews 133 = .ok (.aload_n 0, 1) := by decide +kernel
theorem dL_areCrews_134 : decode cL_areCrews 134 = .ok (.iload_n 3, 1) := by decide +kernel
theorem dL_areCrews_135 : decode cL_areCrews 135 = .ok (.iload 7, 2) := by decide +kernel
theorem dL_areCrews_137 : decode cL_areCrews 137 = .ok (.invokevirtual 42, 3) := by decide +kernel
theorem dL_areCrews_140 : decode cL_areCrews 140 = .ok (.istore 8, 2) := by decide +kernel
theorem dL_areCrews_142 : decode cL_areCrews 142 = .ok (.aload_n 0, 1) := by decide +kernel
theorem dL_areCrews_143 : decode cL_areCrews 143 = .ok (.iload_n 3, 1) := by decide +kernel
theorem dL_areCrews_144 : decode cL_areCrews 144 = .ok (.iload 7, 2) := by decide +kernel
theorem dL_areCrews_146 : decode cL_areCrews 146 = .ok (.invokevirtual 45, 3) := by decide +kernel
theorem dL_areCrews_149 : decode cL_areCrews 149 = .ok (.istore 9, 2) := by decide +kernel
theorem dL_areCrews_151 : decode cL_areCrews 151 = .ok (.iload 7, 2) := by decide +kernel
theorem dL_areCrews_153 : decode cL_areCrews 153 = .ok (.bipush 8, 2) := by decide +kernel
theorem dL_areCrews_155 : decode cL_areCrews 155 = .ok (.irem, 1) := by decide +kernel
theorem dL_areCrews_156 : decode cL_areCrews 156 = .ok (.bipush 7, 2) := by decide +kernel
theorem dL_areCrews_158 : decode cL_areCrews 158 = .ok (.if_icmp .ge 15, 3) := by decide +kernel
theorem dL_areCrews_161 : decode cL_areCrews 161 = .ok (.aload_n 0, 1) := by decide +kernel
theorem dL_areCrews_162 : decode cL_areCrews 162 = .ok (.iload_n 3, 1) := by decide +kernel
theorem dL_areCrews_163 : decode cL_areCrews 163 = .ok (.iload 7, 2) := by decide +kernel
theorem dL_areCrews_165 : decode cL_areCrews 165 = .ok (.iconst 1, 1) := by decide +kernel
theorem dL_areCrews_166 : decode cL_areCrews 166 = .ok (.iadd, 1) := by decide +kernel
theorem dL_areCrews_167 : decode cL_areCrews 167 = .ok (.invokevirtual 42, 3) := by decide +kernel
theorem dL_areCrews_170 : decode cL_areCrews 170 = .ok (.goto 5, 3) := by decide +kernel
theorem dL_areCrews_173 : decode cL_areCrews 173 = .ok (.iload 8, 2) := by decide +kernel
theorem dL_areCrews_175 : decode cL_areCrews 175 = .ok (.istore 10, 2) := by decide +kernel
theorem dL_areCrews_177 : decode cL_areCrews 177 = .ok (.iconst 1, 1) := by decide +kernel
theorem dL_areCrews_178 : decode cL_areCrews 178 = .ok (.aload_n 0, 1) := by decide +kernel
theorem dL_areCrews_179 : decode cL_areCrews 179 = .ok (.iload 7, 2) := by decide +kernel
theorem dL_areCrews_181 : decode cL_areCrews 181 = .ok (.iconst 1, 1) := by decide +kernel
theorem dL_areCrews_182 : decode cL_areCrews 182 = .ok (.invokevirtual 27, 3) := by decide +kernel
theorem dL_areCrews_185 : decode cL_areCrews 185 = .ok (.iconst 3, 1) := by decide +kernel
theorem dL_areCrews_186 : decode cL_areCrews 186 = .ok (.idiv, 1) := by decide +kernel
theorem dL_areCrews_187 : decode cL_areCrews 187 = .ok (.iadd, 1) := by decide +kernel
theorem dL_areCrews_188 : decode cL_areCrews 188 = .ok (.istore 11, 2) := by decide +kernel
theorem dL_areCrews_190 : decode cL_areCrews 190 = .ok (.iload 8, 2) := by decide +kernel
theorem dL_areCrews_192 : decode cL_areCrews 192 = .ok (.ifCond .lt 118, 3) := by decide +kernel
theorem dL_areCrews_195 : decode cL_areCrews 195 = .ok (.iload 8, 2) := by decide +kernel
theorem dL_areCrews_197 : decode cL_areCrews 197 = .ok (.ifCond .ne 7, 3) := by decide +kernel
theorem dL_areCrews_200 : decode cL_areCrews 200 = .ok (.iconst 1, 1) := by decide +kernel
theorem dL_areCrews_201 : decode cL_areCrews 201 = .ok (.goto 4, 3) := by decide +kernel
theorem dL_areCrews_204 : decode cL_areCrews 204 = .ok (.iconst 0, 1) := by decide +kernel
theorem dL_areCrews_205 : decode cL_areCrews 205 = .ok (.iload 7, 2) := by decide +kernel
theorem dL_areCrews_207 : decode cL_areCrews 207 = .ok (.iload 4, 2) := by decide +kernel
theorem dL_areCrews_209 : decode cL_areCrews 209 = .ok (.if_icmp .ne 7, 3) := by decide +kernel
theorem dL_areCrews_212 : decode cL_areCrews 212 = .ok (.iconst 1, 1) := by decide +kernel
theorem dL_areCrews_213 : decode cL_areCrews 213 = .ok (.goto 4, 3) := by decide +kernel
theorem dL_areCrews_216 : decode cL_areCrews 216 = .ok (.iconst 0, 1) := by decide +kernel
theorem dL_areCrews_217 : decode cL_areCrews 217 = .ok (.if_icmp .ne 93, 3) := by decide +kernel
theorem dL_areCrews_220 : decode cL_areCrews 220 = .ok (.iload 8, 2) := by decide +kernel
theorem dL_areCrews_222 : decode cL_areCrews 222 = .ok (.iload 10, 2) := by decide +kernel
theorem dL_areCrews_224 : decode cL_areCrews 224 = .ok (.iload 11, 2) := by decide +kernel
theorem dL_areCrews_226 : decode cL_areCrews 226 = .ok (.iadd, 1) := by decide +kernel
theorem dL_areCrews_227 : decode cL_areCrews 227 = .ok (.if_icmp .gt 83, 3) := by decide +kernel
theorem dL_areCrews_230 : decode cL_areCrews 230 = .ok (.iload 9, 2) := by decide +kernel
theorem dL_areCrews_232 : decode cL_areCrews 232 = .ok (.aload_n 0, 1) := by decide +kernel
theorem dL_areCrews_233 : decode cL_areCrews 233 = .ok (.iload 7, 2) := by decide +kernel
theorem dL_areCrews_235 : decode cL_areCrews 235 = .ok (.iconst 0, 1) := by decide +kernel
theorem dL_areCrews_236 : decode cL_areCrews 236 = .ok (.invokevirtual 27, 3) := by decide +kernel
theorem dL_areCrews_239 : decode cL_areCrews 239 = .ok (.ifCond .ne 7, 3) := by decide +kernel
theorem dL_areCrews_242 : decode cL_areCrews 242 = .ok (.iconst 1, 1) := by decide +kernel
theorem dL_areCrews_243 : decode cL_areCrews 243 = .ok (.goto 33, 3) := by decide +kernel
theorem dL_areCrews_246 : decode cL_areCrews 246 = .ok (.iload 8, 2) := by decide +kernel
theorem dL_areCrews_248 : decode cL_areCrews 248 = .ok (.iload 5, 2) := by decide +kernel
theorem dL_areCrews_250 : decode cL_areCrews 250 = .ok (.if_icmp .le 7, 3) := by decide +kernel
theorem dL_areCrews_253 : decode cL_areCrews 253 = .ok (.iconst 2, 1) := by decide +kernel
theorem dL_areCrews_254 : decode cL_areCrews 254 = .ok (.goto 22, 3) := by decide +kernel
theorem dL_areCrews_257 : decode cL_areCrews 257 = .ok (.iload 8, 2) := by decide +kernel
theorem dL_areCrews_259 : decode cL_areCrews 259 = .ok (.aload_n 0, 1) := by decide +kernel
theorem dL_areCrews_260 : decode cL_areCrews 260 = .ok (.bipush 14, 2) := by decide +kernel
theorem dL_areCrews_262 : decode cL_areCrews 262 = .ok (.invokevirtual 14, 3) := by decide +kernel
theorem dL_areCrews_265 : decode cL_areCrews 265 = .ok (.iadd, 1) := by decide +kernel
theorem dL_areCrews_266 : decode cL_areCrews 266 = .ok (.iload 5, 2) := by decide +kernel
theorem dL_areCrews_268 : decode cL_areCrews 268 = .ok (.if_icmp .le 7, 3) := by decide +kernel
theorem dL_areCrews_271 : decode cL_areCrews 271 = .ok (.iconst 3, 1) := by decide +kernel
theorem dL_areCrews_272 : decode cL_areCrews 272 = .ok (.goto 4, 3) := by decide +kernel
theorem dL_areCrews_275 : decode cL_areCrews 275 = .ok (.iconst 0, 1) := by decide +kernel
theorem dL_areCrews_276 : decode cL_areCrews 276 = .ok (.if_icmp .ne 34, 3) := by decide +kernel
theorem dL_areCrews_279 : decode cL_areCrews 279 = .ok (.iload 9, 2) := by decide +kernel
theorem dL_areCrews_281 : decode cL_areCrews 281 = .ok (.ifCond .gt 25, 3) := by decide +kernel
theorem dL_areCrews_284 : decode cL_areCrews 284 = .ok (.iload 6, 2) := by decide +kernel
theorem dL_areCrews_286 : decode cL_areCrews 286 = .ok (.ifCond .lt 24, 3) := by decide +kernel
theorem dL_areCrews_289 : decode cL_areCrews 289 = .ok (.aload_n 0, 1) := by decide +kernel
theorem dL_areCrews_290 : decode cL_areCrews 290 = .ok (.iload 7, 2) := by decide +kernel
theorem dL_areCrews_292 : decode cL_areCrews 292 = .ok (.iconst 5, 1) := by decide +kernel
theorem dL_areCrews_293 : decode cL_areCrews 293 = .ok (.invokevirtual 27, 3) := by decide +kernel
theorem dL_areCrews_296 : decode cL_areCrews 296 = .ok (.aload_n 0, 1) := by decide +kernel
theorem dL_areCrews_297 : decode cL_areCrews 297 = .ok (.iload 6, 2) := by decide +kernel
theorem dL_areCrews_299 : decode cL_areCrews 299 = .ok (.iconst 5, 1) := by decide +kernel
theorem dL_areCrews_300 : decode cL_areCrews 300 = .ok (.invokevirtual 27, 3) := by decide +kernel
theorem dL_areCrews_303 : decode cL_areCrews 303 = .ok (.if_icmp .gt 7, 3) := by decide +kernel
theorem dL_areCrews_306 : decode cL_areCrews 306 = .ok (.iconst 1, 1) := by decide +kernel
theorem dL_areCrews_307 : decode cL_areCrews 307 = .ok (.goto 4, 3) := by decide +kernel
theorem dL_areCrews_310 : decode cL_areCrews 310 = .ok (.iconst 0, 1) := by decide +kernel
theorem dL_areCrews_311 : decode cL_areCrews 311 = .ok (.istore_n 2, 1) := by decide +kernel
theorem dL_areCrews_312 : decode cL_areCrews 312 = .ok (.iinc 7 5, 3) := by decide +kernel
theorem dL_areCrews_315 : decode cL_areCrews 315 = .ok (.goto (-193), 3) := by decide +kernel
theorem dL_areCrews_318 : decode cL_areCrews 318 = .ok (.iinc 3 1, 3) := by decide +kernel
theorem dL_areCrews_321 : decode cL_areCrews 321 = .ok (.goto (-315), 3) := by decide +kernel
theorem dL_areCrews_324 : decode cL_areCrews 324 = .ok (.iload_n 2, 1) := by decide +kernel
theorem dL_areCrews_325 : decode cL_areCrews 325 = .ok (.ifCond .eq 32, 3) := by decide +kernel
theorem dL_areCrews_328 : decode cL_areCrews 328 = .ok (.iload_n 1, 1) := by decide +kernel
theorem dL_areCrews_329 : decode cL_areCrews 329 = .ok (.aload_n 0, 1) := by decide +kernel
theorem dL_areCrews_330 : decode cL_areCrews 330 = .ok (.bipush 7, 2) := by decide +kernel
theorem dL_areCrews_332 : decode cL_areCrews 332 = .ok (.invokevirtual 14, 3) := by decide +kernel
theorem dL_areCrews_335 : decode cL_areCrews 335 = .ok (.if_icmp .ne 22, 3) := by decide +kernel
theorem dL_areCrews_338 : decode cL_areCrews 338 = .ok (.aload_n 0, 1) := by decide +kernel
theorem dL_areCrews_339 : decode cL_areCrews 339 = .ok (.bipush 9, 2) := by decide +kernel
theorem dL_areCrews_341 : decode cL_areCrews 341 = .ok (.invokevirtual 14, 3) := by decide +kernel
theorem dL_areCrews_344 : decode cL_areCrews 344 = .ok (.aload_n 0, 1) := by decide +kernel
theorem dL_areCrews_345 : decode cL_areCrews 345 = .ok (.bipush 8, 2) := by decide +kernel
theorem dL_areCrews_347 : decode cL_areCrews 347 = .ok (.invokevirtual 14, 3) := by decide +kernel
theorem dL_areCrews_350 : decode cL_areCrews 350 = .ok (.if_icmp .gt 7, 3) := by decide +kernel
theorem dL_areCrews_353 : decode cL_areCrews 353 = .ok (.iconst 1, 1) := by decide +kernel
theorem dL_areCrews_354 : decode cL_areCrews 354 = .ok (.goto 4, 3) := by decide +kernel
theorem dL_areCrews_357 : decode cL_areCrews 357 = .ok (.iconst 0, 1) := by decide +kernel
theorem dL_areCrews_358 : decode cL_areCrews 358 = .ok (.ireturn, 1) := by decide +kernel
theorem dL_refusesAny_0 : decode cL_refusesAny 0 = .ok (.iload_n 1, 1) := by decide +kernel
theorem dL_refusesAny_1 : decode cL_refusesAny 1 = .ok (.iconst 2, 1) := by decide +kernel
theorem dL_refusesAny_2 : decode cL_refusesAny 2 = .ok (.irem, 1) := by decide +kernel
theorem dL_refusesAny_3 : decode cL_refusesAny 3 = .ok (.ifCond .ne 12, 3) := by decide +kernel
theorem dL_refusesAny_6 : decode cL_refusesAny 6 = .ok (.iconst (-1), 1) := by decide +kernel
theorem dL_refusesAny_7 : decode cL_refusesAny 7 = .ok (.iload_n 1, 1) := by decide +kernel
theorem dL_refusesAny_8 : decode cL_refusesAny 8 = .ok (.bipush 99, 2) := by decide +kernel
theorem dL_refusesAny_10 : decode cL_refusesAny 10 = .ok (.irem, 1) := by decide +kernel
theorem dL_refusesAny_11 : decode cL_refusesAny 11 = .ok (.isub, 1) := by decide +kernel
theorem dL_refusesAny_12 : decode cL_refusesAny 12 = .ok (.goto 10, 3) := by decide +kernel
theorem dL_refusesAny_15 : decode cL_refusesAny 15 = .ok (.bipush 64, 2) := by decide +kernel
theorem dL_refusesAny_17 : decode cL_refusesAny 17 = .ok (.iload_n 1, 1) := by decide +kernel
theorem dL_refusesAny_18 : decode cL_refusesAny 18 = .ok (.bipush 99, 2) := by decide +kernel
theorem dL_refusesAny_20 : decode cL_refusesAny 20 = .ok (.irem, 1) := by decide +kernel
theorem dL_refusesAny_21 : decode cL_refusesAny 21 = .ok (.iadd, 1) := by decide +kernel
theorem dL_refusesAny_22 : decode cL_refusesAny 22 = .ok (.istore_n 2, 1) := by decide +kernel
theorem dL_refusesAny_23 : decode cL_refusesAny 23 = .ok (.iload_n 1, 1) := by decide +kernel
theorem dL_refusesAny_24 : decode cL_refusesAny 24 = .ok (.iconst 2, 1) := by decide +kernel
theorem dL_refusesAny_25 : decode cL_refusesAny 25 = .ok (.irem, 1) := by decide +kernel
theorem dL_refusesAny_26 : decode cL_refusesAny 26 = .ok (.ifCond .ne 12, 3) := by decide +kernel
theorem dL_refusesAny_29 : decode cL_refusesAny 29 = .ok (.iconst (-1), 1) := by decide +kernel
theorem dL_refusesAny_30 : decode cL_refusesAny 30 = .ok (.iload_n 1, 1) := by decide +kernel
theorem dL_refusesAny_31 : decode cL_refusesAny 31 = .ok (.bipush 99, 2) := by decide +kernel
theorem dL_refusesAny_33 : decode cL_refusesAny 33 = .ok (.irem, 1) := by decide +kernel
