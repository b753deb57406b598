theorem dL_act_656 : decode cL_act 656 = .ok (.invokevirtual 14, 3) := by decide +kernel
theorem dL_act_659 : decode cL_act 659 = .ok (.istore 7, 2) := by decide +kernel
theorem dL_act_661 : decode cL_act 661 = .ok (.aload_n 0, 1) := by decide +kernel
theorem dL_act_662 : decode cL_act 662 = .ok (.iload 5, 2) := by decide +kernel
theorem dL_act_664 : decode cL_act 664 = .ok (.iload 6, 2) := by decide +kernel
theorem dL_act_666 : decode cL_act 666 = .ok (.invokevirtual 57, 3) := by decide +kernel
theorem dL_act_669 : decode cL_act 669 = .ok (.istore 8, 2) := by decide +kernel
theorem dL_act_671 : decode cL_act 671 = .ok (.iload 8, 2) := by decide +kernel
theorem dL_act_673 : decode cL_act 673 = .ok (.iload 7, 2) := by decide +kernel
theorem dL_act_675 : decode cL_act 675 = .ok (.iload 6, 2) := by decide +kernel
theorem dL_act_677 : decode cL_act 677 = .ok (.if_icmp .ne 8, 3) := by decide +kernel
theorem dL_act_680 : decode cL_act 680 = .ok (.bipush (-5), 2) := by decide +kernel
theorem dL_act_682 : decode cL_act 682 = .ok (.goto 5, 3) := by decide +kernel
theorem dL_act_685 : decode cL_act 685 = .ok (.iload 7, 2) := by decide +kernel
theorem dL_act_687 : decode cL_act 687 = .ok (.if_icmp .ne 22, 3) := by decide +kernel
theorem dL_act_690 : decode cL_act 690 = .ok (.aload_n 0, 1) := by decide +kernel
theorem dL_act_691 : decode cL_act 691 = .ok (.bipush 12, 2) := by decide +kernel
theorem dL_act_693 : decode cL_act 693 = .ok (.iload 5, 2) := by decide +kernel
theorem dL_act_695 : decode cL_act 695 = .ok (.iadd, 1) := by decide +kernel
theorem dL_act_696 : decode cL_act 696 = .ok (.invokevirtual 14, 3) := by decide +kernel
theorem dL_act_699 : decode cL_act 699 = .ok (.iload 6, 2) := by decide +kernel
theorem dL_act_701 : decode cL_act 701 = .ok (.if_icmp .ne 8, 3) := by decide +kernel
theorem dL_act_704 : decode cL_act 704 = .ok (.iload 8, 2) := by decide +kernel
theorem dL_act_706 : decode cL_act 706 = .ok (.goto 5, 3) := by decide +kernel
theorem dL_act_709 : decode cL_act 709 = .ok (.bipush (-9), 2) := by decide +kernel
theorem dL_act_711 : decode cL_act 711 = .ok (.ireturn, 1) := by decide +kernel
theorem dL_law_0 : decode cL_law 0 = .ok (.new 15, 3) := by decide +kernel
theorem dL_law_3 : decode cL_law 3 = .ok (.dup, 1) := by decide +kernel
theorem dL_law_4 : decode cL_law 4 = .ok (.invokespecial 100, 3) := by decide +kernel
theorem dL_law_7 : decode cL_law 7 = .ok (.astore_n 1, 1) := by decide +kernel
theorem dL_law_8 : decode cL_law 8 = .ok (.aload_n 1, 1) := by decide +kernel
theorem dL_law_9 : decode cL_law 9 = .ok (.invokevirtual 101, 3) := by decide +kernel
theorem dL_law_12 : decode cL_law 12 = .ok (.bipush (-5), 2) := by decide +kernel
theorem dL_law_14 : decode cL_law 14 = .ok (.if_icmp .ne 90, 3) := by decide +kernel
theorem dL_law_17 : decode cL_law 17 = .ok (.aload_n 1, 1) := by decide +kernel
theorem dL_law_18 : decode cL_law 18 = .ok (.invokevirtual 104, 3) := by decide +kernel
theorem dL_law_21 : decode cL_law 21 = .ok (.bipush (-5), 2) := by decide +kernel
theorem dL_law_23 : decode cL_law 23 = .ok (.if_icmp .ne 81, 3) := by decide +kernel
theorem dL_law_26 : decode cL_law 26 = .ok (.aload_n 1, 1) := by decide +kernel
theorem dL_law_27 : decode cL_law 27 = .ok (.bipush 12, 2) := by decide +kernel
theorem dL_law_29 : decode cL_law 29 = .ok (.invokevirtual 14, 3) := by decide +kernel
theorem dL_law_32 : decode cL_law 32 = .ok (.bipush 8, 2) := by decide +kernel
theorem dL_law_34 : decode cL_law 34 = .ok (.if_icmp .ne 70, 3) := by decide +kernel
theorem dL_law_37 : decode cL_law 37 = .ok (.aload_n 1, 1) := by decide +kernel
theorem dL_law_38 : decode cL_law 38 = .ok (.bipush 13, 2) := by decide +kernel
theorem dL_law_40 : decode cL_law 40 = .ok (.invokevirtual 14, 3) := by decide +kernel
theorem dL_law_43 : decode cL_law 43 = .ok (.ifCond .ne 61, 3) := by decide +kernel
theorem dL_law_46 : decode cL_law 46 = .ok (.aload_n 1, 1) := by decide +kernel
theorem dL_law_47 : decode cL_law 47 = .ok (.bipush 14, 2) := by decide +kernel
theorem dL_law_49 : decode cL_law 49 = .ok (.invokevirtual 14, 3) := by decide +kernel
theorem dL_law_52 : decode cL_law 52 = .ok (.iconst 3, 1) := by decide +kernel
theorem dL_law_53 : decode cL_law 53 = .ok (.if_icmp .ne 51, 3) := by decide +kernel
theorem dL_law_56 : decode cL_law 56 = .ok (.aload_n 1, 1) := by decide +kernel
theorem dL_law_57 : decode cL_law 57 = .ok (.iconst 2, 1) := by decide +kernel
theorem dL_law_58 : decode cL_law 58 = .ok (.iconst 0, 1) := by decide +kernel
theorem dL_law_59 : decode cL_law 59 = .ok (.invokevirtual 20, 3) := by decide +kernel
theorem dL_law_62 : decode cL_law 62 = .ok (.iconst 2, 1) := by decide +kernel
theorem dL_law_63 : decode cL_law 63 = .ok (.if_icmp .ne 41, 3) := by decide +kernel
theorem dL_law_66 : decode cL_law 66 = .ok (.aload_n 1, 1) := by decide +kernel
theorem dL_law_67 : decode cL_law 67 = .ok (.iconst 2, 1) := by decide +kernel
theorem dL_law_68 : decode cL_law 68 = .ok (.iconst 1, 1) := by decide +kernel
theorem dL_law_69 : decode cL_law 69 = .ok (.invokevirtual 20, 3) := by decide +kernel
theorem dL_law_72 : decode cL_law 72 = .ok (.bipush 8, 2) := by decide +kernel
theorem dL_law_74 : decode cL_law 74 = .ok (.if_icmp .ne 30, 3) := by decide +kernel
theorem dL_law_77 : decode cL_law 77 = .ok (.aload_n 1, 1) := by decide +kernel
theorem dL_law_78 : decode cL_law 78 = .ok (.iconst 0, 1) := by decide +kernel
theorem dL_law_79 : decode cL_law 79 = .ok (.invokestatic 107, 3) := by decide +kernel
theorem dL_law_82 : decode cL_law 82 = .ok (.ifCond .eq 22, 3) := by decide +kernel
theorem dL_law_85 : decode cL_law 85 = .ok (.aload_n 1, 1) := by decide +kernel
theorem dL_law_86 : decode cL_law 86 = .ok (.iconst 1, 1) := by decide +kernel
theorem dL_law_87 : decode cL_law 87 = .ok (.invokestatic 107, 3) := by decide +kernel
theorem dL_law_90 : decode cL_law 90 = .ok (.ifCond .eq 14, 3) := by decide +kernel
theorem dL_law_93 : decode cL_law 93 = .ok (.aload_n 1, 1) := by decide +kernel
theorem dL_law_94 : decode cL_law 94 = .ok (.invokevirtual 110, 3) := by decide +kernel
theorem dL_law_97 : decode cL_law 97 = .ok (.ifCond .ne 7, 3) := by decide +kernel
theorem dL_law_100 : decode cL_law 100 = .ok (.iconst 1, 1) := by decide +kernel
theorem dL_law_101 : decode cL_law 101 = .ok (.goto 4, 3) := by decide +kernel
theorem dL_law_104 : decode cL_law 104 = .ok (.iconst 0, 1) := by decide +kernel
theorem dL_law_105 : decode cL_law 105 = .ok (.istore_n 2, 1) := by decide +kernel
theorem dL_law_106 : decode cL_law 106 = .ok (.aload_n 1, 1) := by decide +kernel
theorem dL_law_107 : decode cL_law 107 = .ok (.invokestatic 84, 3) := by decide +kernel
theorem dL_law_110 : decode cL_law 110 = .ok (.lstore_n 3, 1) := by decide +kernel
theorem dL_law_111 : decode cL_law 111 = .ok (.iconst 0, 1) := by decide +kernel
theorem dL_law_112 : decode cL_law 112 = .ok (.istore 5, 2) := by decide +kernel
theorem dL_law_114 : decode cL_law 114 = .ok (.iconst 0, 1) := by decide +kernel
theorem dL_law_115 : decode cL_law 115 = .ok (.istore 6, 2) := by decide +kernel
theorem dL_law_117 : decode cL_law 117 = .ok (.iload 6, 2) := by decide +kernel
theorem dL_law_119 : decode cL_law 119 = .ok (.bipush 48, 2) := by decide +kernel
theorem dL_law_121 : decode cL_law 121 = .ok (.if_icmp .ge 297, 3) := by decide +kernel
theorem dL_law_124 : decode cL_law 124 = .ok (.iload_n 2, 1) := by decide +kernel
theorem dL_law_125 : decode cL_law 125 = .ok (.ifCond .eq 293, 3) := by decide +kernel
theorem dL_law_128 : decode cL_law 128 = .ok (.aload_n 0, 1) := by decide +kernel
theorem dL_law_129 : decode cL_law 129 = .ok (.iload 6, 2) := by decide +kernel
theorem dL_law_131 : decode cL_law 131 = .ok (.invokestatic 113, 3) := by decide +kernel
theorem dL_law_134 : decode cL_law 134 = .ok (.istore 7, 2) := by decide +kernel
theorem dL_law_136 : decode cL_law 136 = .ok (.aload_n 1, 1) := by decide +kernel
theorem dL_law_137 : decode cL_law 137 = .ok (.invokestatic 84, 3) := by decide +kernel
theorem dL_law_140 : decode cL_law 140 = .ok (.lstore 8, 2) := by decide +kernel
theorem dL_law_142 : decode cL_law 142 = .ok (.aload_n 1, 1) := by decide +kernel
theorem dL_law_143 : decode cL_law 143 = .ok (.bipush 15, 2) := by decide +kernel
theorem dL_law_145 : decode cL_law 145 = .ok (.invokevirtual 14, 3) := by decide +kernel
theorem dL_law_148 : decode cL_law 148 = .ok (.istore 10, 2) := by decide +kernel
theorem dL_law_150 : decode cL_law 150 = .ok (.aload_n 1, 1) := by decide +kernel
theorem dL_law_151 : decode cL_law 151 = .ok (.iload 7, 2) := by decide +kernel
theorem dL_law_153 : decode cL_law 153 = .ok (.invokestatic 117, 3) := by decide +kernel
theorem dL_law_156 : decode cL_law 156 = .ok (.istore 11, 2) := by decide +kernel
theorem dL_law_158 : decode cL_law 158 = .ok (.aload_n 1, 1) := by decide +kernel
theorem dL_law_159 : decode cL_law 159 = .ok (.bipush 15, 2) := by decide +kernel
theorem dL_law_161 : decode cL_law 161 = .ok (.invokevirtual 14, 3) := by decide +kernel
theorem dL_law_164 : decode cL_law 164 = .ok (.istore 12, 2) := by decide +kernel
theorem dL_law_166 : decode cL_law 166 = .ok (.iload 11, 2) := by decide +kernel
theorem dL_law_168 : decode cL_law 168 = .ok (.bipush (-9), 2) := by decide +kernel
theorem dL_law_170 : decode cL_law 170 = .ok (.if_icmp .le 102, 3) := by decide +kernel
theorem dL_law_173 : decode cL_law 173 = .ok (.iload 11, 2) := by decide +kernel
theorem dL_law_175 : decode cL_law 175 = .ok (.ifCond .ge 23, 3) := by decide +kernel
theorem dL_law_178 : decode cL_law 178 = .ok (.iload 12, 2) := by decide +kernel
theorem dL_law_180 : decode cL_law 180 = .ok (.iload 10, 2) := by decide +kernel
theorem dL_law_182 : decode cL_law 182 = .ok (.if_icmp .ne 90, 3) := by decide +kernel
theorem dL_law_185 : decode cL_law 185 = .ok (.aload_n 1, 1) := by decide +kernel
theorem dL_law_186 : decode cL_law 186 = .ok (.invokestatic 84, 3) := by decide +kernel
theorem dL_law_189 : decode cL_law 189 = .ok (.lload 8, 2) := by decide +kernel
theorem dL_law_191 : decode cL_law 191 = .ok (.lcmp, 1) := by decide +kernel
theorem dL_law_192 : decode cL_law 192 = .ok (.ifCond .ne 80, 3) := by decide +kernel
theorem dL_law_195 : decode cL_law 195 = .ok (.goto 22, 3) := by decide +kernel
theorem dL_law_198 : decode cL_law 198 = .ok (.iload 12, 2) := by decide +kernel
theorem dL_law_200 : decode cL_law 200 = .ok (.iload 10, 2) := by decide +kernel
theorem dL_law_202 : decode cL_law 202 = .ok (.iconst 4, 1) := by decide +kernel
theorem dL_law_203 : decode cL_law 203 = .ok (.if_icmp .ge 10, 3) := by decide +kernel
theorem dL_law_206 : decode cL_law 206 = .ok (.iload 10, 2) := by decide +kernel
theorem dL_law_208 : decode cL_law 208 = .ok (.iconst 1, 1) := by decide +kernel
theorem dL_law_209 : decode cL_law 209 = .ok (.iadd, 1) := by decide +kernel
theorem dL_law_210 : decode cL_law 210 = .ok (.goto 4, 3) := by decide +kernel
theorem dL_law_213 : decode cL_law 213 = .ok (.iconst 4, 1) := by decide +kernel
theorem dL_law_214 : decode cL_law 214 = .ok (.if_icmp .ne 58, 3) := by decide +kernel
theorem dL_law_217 : decode cL_law 217 = .ok (.iload 6, 2) := by decide +kernel
theorem dL_law_219 : decode cL_law 219 = .ok (.iconst 4, 1) := by decide +kernel
theorem dL_law_220 : decode cL_law 220 = .ok (.irem, 1) := by decide +kernel
theorem dL_law_221 : decode cL_law 221 = .ok (.iconst 3, 1) := by decide +kernel
theorem dL_law_222 : decode cL_law 222 = .ok (.if_icmp .ne 24, 3) := by decide +kernel
theorem dL_law_225 : decode cL_law 225 = .ok (.aload_n 1, 1) := by decide +kernel
theorem dL_law_226 : decode cL_law 226 = .ok (.invokestatic 120, 3) := by decide +kernel
theorem dL_law_229 : decode cL_law 229 = .ok (.ifCond .eq 43, 3) := by decide +kernel
theorem dL_law_232 : decode cL_law 232 = .ok (.aload_n 1, 1) := by decide +kernel
theorem dL_law_233 : decode cL_law 233 = .ok (.invokestatic 124, 3) := by decide +kernel
theorem dL_law_236 : decode cL_law 236 = .ok (.ifCond .eq 36, 3) := by decide +kernel
theorem dL_law_239 : decode cL_law 239 = .ok (.aload_n 1, 1) := by decide +kernel
theorem dL_law_240 : decode cL_law 240 = .ok (.invokestatic 127, 3) := by decide +kernel
theorem dL_law_243 : decode cL_law 243 = .ok (.ifCond .eq 29, 3) := by decide +kernel
theorem dL_law_246 : decode cL_law 246 = .ok (.iload 6, 2) := by decide +kernel
theorem dL_law_248 : decode cL_law 248 = .ok (.bipush 8, 2) := by decide +kernel
theorem dL_law_250 : decode cL_law 250 = .ok (.irem, 1) := by decide +kernel
theorem dL_law_251 : decode cL_law 251 = .ok (.bipush 7, 2) := by decide +kernel
theorem dL_law_253 : decode cL_law 253 = .ok (.if_icmp .ne 15, 3) := by decide +kernel
theorem dL_law_256 : decode cL_law 256 = .ok (.aload_n 1, 1) := by decide +kernel
theorem dL_law_257 : decode cL_law 257 = .ok (.iload 7, 2) := by decide +kernel
theorem dL_law_259 : decode cL_law 259 = .ok (.bipush 7, 2) := by decide +kernel
theorem dL_law_261 : decode cL_law 261 = .ok (.idiv, 1) := by decide +kernel
theorem dL_law_262 : decode cL_law 262 = .ok (.invokestatic 107, 3) := by decide +kernel
theorem dL_law_265 : decode cL_law 265 = .ok (.ifCond .eq 7, 3) := by decide +kernel
theorem dL_law_268 : decode cL_law 268 = .ok (.iconst 1, 1) := by decide +kernel
theorem dL_law_269 : decode cL_law 269 = .ok (.goto 4, 3) := by decide +kernel
theorem dL_law_272 : decode cL_law 272 = .ok (.iconst 0, 1) := by decide +kernel
theorem dL_law_273 : decode cL_law 273 = .ok (.istore_n 2, 1) := by decide +kernel
theorem dL_law_274 : decode cL_law 274 = .ok (.iload_n 2, 1) := by decide +kernel
theorem dL_law_275 : decode cL_law 275 = .ok (.ifCond .eq 53, 3) := by decide +kernel
theorem dL_law_278 : decode cL_law 278 = .ok (.iload 11, 2) := by decide +kernel
theorem dL_law_280 : decode cL_law 280 = .ok (.ifCond .lt 48, 3) := by decide +kernel
theorem dL_law_283 : decode cL_law 283 = .ok (.iload 7, 2) := by decide +kernel
theorem dL_law_285 : decode cL_law 285 = .ok (.bipush 17, 2) := by decide +kernel
theorem dL_law_287 : decode cL_law 287 = .ok (.idiv, 1) := by decide +kernel
theorem dL_law_288 : decode cL_law 288 = .ok (.iconst 4, 1) := by decide +kernel
theorem dL_law_289 : decode cL_law 289 = .ok (.irem, 1) := by decide +kernel
theorem dL_law_290 : decode cL_law 290 = .ok (.ifCond .ne 38, 3) := by decide +kernel
theorem dL_law_293 : decode cL_law 293 = .ok (.aload_n 1, 1) := by decide +kernel
theorem dL_law_294 : decode cL_law 294 = .ok (.invokevirtual 101, 3) := by decide +kernel
theorem dL_law_297 : decode cL_law 297 = .ok (.iload 10, 2) := by decide +kernel
theorem dL_law_299 : decode cL_law 299 = .ok (.iconst 4, 1) := by decide +kernel
theorem dL_law_300 : decode cL_law 300 = .ok (.if_icmp .ge 8, 3) := by decide +kernel
theorem dL_law_303 : decode cL_law 303 = .ok (.iload 10, 2) := by decide +kernel
theorem dL_law_305 : decode cL_law 305 = .ok (.goto 4, 3) := by decide +kernel
theorem dL_law_308 : decode cL_law 308 = .ok (.iconst 3, 1) := by decide +kernel
theorem dL_law_309 : decode cL_law 309 = .ok (.if_icmp .ne 17, 3) := by decide +kernel
theorem dL_law_312 : decode cL_law 312 = .ok (.aload_n 1, 1) := by decide +kernel
theorem dL_law_313 : decode cL_law 313 = .ok (.invokestatic 84, 3) := by decide +kernel
theorem dL_law_316 : decode cL_law 316 = .ok (.lload 8, 2) := by decide +kernel
theorem dL_law_318 : decode cL_law 318 = .ok (.lcmp, 1) := by decide +kernel
theorem dL_law_319 : decode cL_law 319 = .ok (.ifCond .ne 7, 3) := by decide +kernel
theorem dL_law_322 : decode cL_law 322 = .ok (.iconst 1, 1) := by decide +kernel
theorem dL_law_323 : decode cL_law 323 = .ok (.goto 4, 3) := by decide +kernel
theorem dL_law_326 : decode cL_law 326 = .ok (.iconst 0, 1) := by decide +kernel
theorem dL_law_327 : decode cL_law 327 = .ok (.istore_n 2, 1) := by decide +kernel
theorem dL_law_328 : decode cL_law 328 = .ok (.iload_n 2, 1) := by decide +kernel
theorem dL_law_329 : decode cL_law 329 = .ok (.ifCond .eq 83, 3) := by decide +kernel
theorem dL_law_332 : decode cL_law 332 = .ok (.iload 6, 2) := by decide +kernel
theorem dL_law_334 : decode cL_law 334 = .ok (.bipush 12, 2) := by decide +kernel
theorem dL_law_336 : decode cL_law 336 = .ok (.irem, 1) := by decide +kernel
theorem dL_law_337 : decode cL_law 337 = .ok (.bipush 11, 2) := by decide +kernel
theorem dL_law_339 : decode cL_law 339 = .ok (.if_icmp .ne 73, 3) := by decide +kernel
theorem dL_law_342 : decode cL_law 342 = .ok (.aload_n 1, 1) := by decide +kernel
theorem dL_law_343 : decode cL_law 343 = .ok (.invokestatic 84, 3) := by decide +kernel
theorem dL_law_346 : decode cL_law 346 = .ok (.lstore 13, 2) := by decide +kernel
theorem dL_law_348 : decode cL_law 348 = .ok (.aload_n 1, 1) := by decide +kernel
theorem dL_law_349 : decode cL_law 349 = .ok (.iconst 0, 1) := by decide +kernel
theorem dL_law_350 : decode cL_law 350 = .ok (.invokevirtual 14, 3) := by decide +kernel
theorem dL_law_353 : decode cL_law 353 = .ok (.istore 15, 2) := by decide +kernel
theorem dL_law_355 : decode cL_law 355 = .ok (.aload_n 1, 1) := by decide +kernel
theorem dL_law_356 : decode cL_law 356 = .ok (.invokevirtual 104, 3) := by decide +kernel
theorem dL_law_359 : decode cL_law 359 = .ok (.iload 5, 2) := by decide +kernel
theorem dL_law_361 : decode cL_law 361 = .ok (.if_icmp .ne 42, 3) := by decide +kernel
theorem dL_law_364 : decode cL_law 364 = .ok (.aload_n 1, 1) := by decide +kernel
theorem dL_law_365 : decode cL_law 365 = .ok (.invokestatic 84, 3) := by decide +kernel
theorem dL_law_368 : decode cL_law 368 = .ok (.lload_n 3, 1) := by decide +kernel
theorem dL_law_369 : decode cL_law 369 = .ok (.lcmp, 1) := by decide +kernel
theorem dL_law_370 : decode cL_law 370 = .ok (.ifCond .ne 33, 3) := by decide +kernel
theorem dL_law_373 : decode cL_law 373 = .ok (.aload_n 1, 1) := by decide +kernel
theorem dL_law_374 : decode cL_law 374 = .ok (.invokevirtual 101, 3) := by decide +kernel
theorem dL_law_377 : decode cL_law 377 = .ok (.ifCond .lt 26, 3) := by decide +kernel
theorem dL_law_380 : decode cL_law 380 = .ok (.aload_n 1, 1) := by decide +kernel
theorem dL_law_381 : decode cL_law 381 = .ok (.invokestatic 84, 3) := by decide +kernel
theorem dL_law_384 : decode cL_law 384 = .ok (.lload 13, 2) := by decide +kernel
theorem dL_law_386 : decode cL_law 386 = .ok (.lcmp, 1) := by decide +kernel
theorem dL_law_387 : decode cL_law 387 = .ok (.ifCond .ne 16, 3) := by decide +kernel
theorem dL_law_390 : decode cL_law 390 = .ok (.aload_n 1, 1) := by decide +kernel
theorem dL_law_391 : decode cL_law 391 = .ok (.invokevirtual 110, 3) := by decide +kernel
theorem dL_law_394 : decode cL_law 394 = .ok (.iload 15, 2) := by decide +kernel
theorem dL_law_396 : decode cL_law 396 = .ok (.if_icmp .ne 7, 3) := by decide +kernel
theorem dL_law_399 : decode cL_law 399 = .ok (.iconst 1, 1) := by decide +kernel
theorem dL_law_400 : decode cL_law 400 = .ok (.goto 4, 3) := by decide +kernel
theorem dL_law_403 : decode cL_law 403 = .ok (.iconst 0, 1) := by decide +kernel
theorem dL_law_404 : decode cL_law 404 = .ok (.istore_n 2, 1) := by decide +kernel
theorem dL_law_405 : decode cL_law 405 = .ok (.lload 13, 2) := by decide +kernel
theorem dL_law_407 : decode cL_law 407 = .ok (.lstore_n 3, 1) := by decide +kernel
theorem dL_law_408 : decode cL_law 408 = .ok (.iload 15, 2) := by decide +kernel
theorem dL_law_410 : decode cL_law 410 = .ok (.istore 5, 2) := by decide +kernel
theorem dL_law_412 : decode cL_law 412 = .ok (.iinc 6 1, 3) := by decide +kernel
theorem dL_law_415 : decode cL_law 415 = .ok (.goto (-298), 3) := by decide +kernel
theorem dL_law_418 : decode cL_law 418 = .ok (.iload_n 2, 1) := by decide +kernel
theorem dL_law_419 : decode cL_law 419 = .ok (.ireturn, 1) := by decide +kernel
