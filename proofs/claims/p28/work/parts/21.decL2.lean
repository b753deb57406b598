theorem dL_arePlots_253 : decode cL_arePlots 253 = .ok (.if_icmp .lt 26, 3) := by decide +kernel
theorem dL_arePlots_256 : decode cL_arePlots 256 = .ok (.iload 7, 2) := by decide +kernel
theorem dL_arePlots_258 : decode cL_arePlots 258 = .ok (.iload_n 1, 1) := by decide +kernel
theorem dL_arePlots_259 : decode cL_arePlots 259 = .ok (.if_icmp .lt 24, 3) := by decide +kernel
theorem dL_arePlots_262 : decode cL_arePlots 262 = .ok (.iload 7, 2) := by decide +kernel
theorem dL_arePlots_264 : decode cL_arePlots 264 = .ok (.iload_n 1, 1) := by decide +kernel
theorem dL_arePlots_265 : decode cL_arePlots 265 = .ok (.iconst 2, 1) := by decide +kernel
theorem dL_arePlots_266 : decode cL_arePlots 266 = .ok (.aload_n 0, 1) := by decide +kernel
theorem dL_arePlots_267 : decode cL_arePlots 267 = .ok (.bipush 13, 2) := by decide +kernel
theorem dL_arePlots_269 : decode cL_arePlots 269 = .ok (.invokevirtual 14, 3) := by decide +kernel
theorem dL_arePlots_272 : decode cL_arePlots 272 = .ok (.imul, 1) := by decide +kernel
theorem dL_arePlots_273 : decode cL_arePlots 273 = .ok (.iconst 1, 1) := by decide +kernel
theorem dL_arePlots_274 : decode cL_arePlots 274 = .ok (.iadd, 1) := by decide +kernel
theorem dL_arePlots_275 : decode cL_arePlots 275 = .ok (.imul, 1) := by decide +kernel
theorem dL_arePlots_276 : decode cL_arePlots 276 = .ok (.if_icmp .gt 7, 3) := by decide +kernel
theorem dL_arePlots_279 : decode cL_arePlots 279 = .ok (.iconst 1, 1) := by decide +kernel
theorem dL_arePlots_280 : decode cL_arePlots 280 = .ok (.goto 4, 3) := by decide +kernel
theorem dL_arePlots_283 : decode cL_arePlots 283 = .ok (.iconst 0, 1) := by decide +kernel
theorem dL_arePlots_284 : decode cL_arePlots 284 = .ok (.istore 8, 2) := by decide +kernel
theorem dL_arePlots_286 : decode cL_arePlots 286 = .ok (.iinc 9 1, 3) := by decide +kernel
theorem dL_arePlots_289 : decode cL_arePlots 289 = .ok (.goto (-253), 3) := by decide +kernel
theorem dL_arePlots_292 : decode cL_arePlots 292 = .ok (.iload 8, 2) := by decide +kernel
theorem dL_arePlots_294 : decode cL_arePlots 294 = .ok (.ifCond .eq 56, 3) := by decide +kernel
theorem dL_arePlots_297 : decode cL_arePlots 297 = .ok (.iload_n 2, 1) := by decide +kernel
theorem dL_arePlots_298 : decode cL_arePlots 298 = .ok (.aload_n 0, 1) := by decide +kernel
theorem dL_arePlots_299 : decode cL_arePlots 299 = .ok (.iconst 1, 1) := by decide +kernel
theorem dL_arePlots_300 : decode cL_arePlots 300 = .ok (.invokevirtual 14, 3) := by decide +kernel
theorem dL_arePlots_303 : decode cL_arePlots 303 = .ok (.if_icmp .ne 47, 3) := by decide +kernel
theorem dL_arePlots_306 : decode cL_arePlots 306 = .ok (.iload_n 3, 1) := by decide +kernel
theorem dL_arePlots_307 : decode cL_arePlots 307 = .ok (.aload_n 0, 1) := by decide +kernel
theorem dL_arePlots_308 : decode cL_arePlots 308 = .ok (.iconst 2, 1) := by decide +kernel
theorem dL_arePlots_309 : decode cL_arePlots 309 = .ok (.invokevirtual 14, 3) := by decide +kernel
theorem dL_arePlots_312 : decode cL_arePlots 312 = .ok (.if_icmp .ne 38, 3) := by decide +kernel
theorem dL_arePlots_315 : decode cL_arePlots 315 = .ok (.iload 4, 2) := by decide +kernel
theorem dL_arePlots_317 : decode cL_arePlots 317 = .ok (.aload_n 0, 1) := by decide +kernel
theorem dL_arePlots_318 : decode cL_arePlots 318 = .ok (.iconst 3, 1) := by decide +kernel
theorem dL_arePlots_319 : decode cL_arePlots 319 = .ok (.invokevirtual 14, 3) := by decide +kernel
theorem dL_arePlots_322 : decode cL_arePlots 322 = .ok (.if_icmp .ne 28, 3) := by decide +kernel
theorem dL_arePlots_325 : decode cL_arePlots 325 = .ok (.iload 5, 2) := by decide +kernel
theorem dL_arePlots_327 : decode cL_arePlots 327 = .ok (.aload_n 0, 1) := by decide +kernel
theorem dL_arePlots_328 : decode cL_arePlots 328 = .ok (.iconst 4, 1) := by decide +kernel
theorem dL_arePlots_329 : decode cL_arePlots 329 = .ok (.invokevirtual 14, 3) := by decide +kernel
theorem dL_arePlots_332 : decode cL_arePlots 332 = .ok (.if_icmp .ne 18, 3) := by decide +kernel
theorem dL_arePlots_335 : decode cL_arePlots 335 = .ok (.iload 6, 2) := by decide +kernel
theorem dL_arePlots_337 : decode cL_arePlots 337 = .ok (.aload_n 0, 1) := by decide +kernel
theorem dL_arePlots_338 : decode cL_arePlots 338 = .ok (.bipush 11, 2) := by decide +kernel
theorem dL_arePlots_340 : decode cL_arePlots 340 = .ok (.invokevirtual 14, 3) := by decide +kernel
theorem dL_arePlots_343 : decode cL_arePlots 343 = .ok (.if_icmp .ne 7, 3) := by decide +kernel
theorem dL_arePlots_346 : decode cL_arePlots 346 = .ok (.iconst 1, 1) := by decide +kernel
theorem dL_arePlots_347 : decode cL_arePlots 347 = .ok (.goto 4, 3) := by decide +kernel
theorem dL_arePlots_350 : decode cL_arePlots 350 = .ok (.iconst 0, 1) := by decide +kernel
theorem dL_arePlots_351 : decode cL_arePlots 351 = .ok (.ireturn, 1) := by decide +kernel
theorem dL_areRows_0 : decode cL_areRows 0 = .ok (.aload_n 0, 1) := by decide +kernel
theorem dL_areRows_1 : decode cL_areRows 1 = .ok (.iconst 5, 1) := by decide +kernel
theorem dL_areRows_2 : decode cL_areRows 2 = .ok (.invokevirtual 14, 3) := by decide +kernel
theorem dL_areRows_5 : decode cL_areRows 5 = .ok (.istore_n 1, 1) := by decide +kernel
theorem dL_areRows_6 : decode cL_areRows 6 = .ok (.iconst 0, 1) := by decide +kernel
theorem dL_areRows_7 : decode cL_areRows 7 = .ok (.istore_n 2, 1) := by decide +kernel
theorem dL_areRows_8 : decode cL_areRows 8 = .ok (.aload_n 0, 1) := by decide +kernel
theorem dL_areRows_9 : decode cL_areRows 9 = .ok (.invokevirtual 30, 3) := by decide +kernel
theorem dL_areRows_12 : decode cL_areRows 12 = .ok (.istore_n 3, 1) := by decide +kernel
theorem dL_areRows_13 : decode cL_areRows 13 = .ok (.iconst 0, 1) := by decide +kernel
theorem dL_areRows_14 : decode cL_areRows 14 = .ok (.istore 4, 2) := by decide +kernel
theorem dL_areRows_16 : decode cL_areRows 16 = .ok (.iload_n 3, 1) := by decide +kernel
theorem dL_areRows_17 : decode cL_areRows 17 = .ok (.bipush (-5), 2) := by decide +kernel
theorem dL_areRows_19 : decode cL_areRows 19 = .ok (.if_icmp .ne 7, 3) := by decide +kernel
theorem dL_areRows_22 : decode cL_areRows 22 = .ok (.iconst 1, 1) := by decide +kernel
theorem dL_areRows_23 : decode cL_areRows 23 = .ok (.goto 4, 3) := by decide +kernel
theorem dL_areRows_26 : decode cL_areRows 26 = .ok (.iconst 0, 1) := by decide +kernel
theorem dL_areRows_27 : decode cL_areRows 27 = .ok (.iload_n 1, 1) := by decide +kernel
theorem dL_areRows_28 : decode cL_areRows 28 = .ok (.iconst 1, 1) := by decide +kernel
theorem dL_areRows_29 : decode cL_areRows 29 = .ok (.if_icmp .ne 7, 3) := by decide +kernel
theorem dL_areRows_32 : decode cL_areRows 32 = .ok (.iconst 1, 1) := by decide +kernel
theorem dL_areRows_33 : decode cL_areRows 33 = .ok (.goto 4, 3) := by decide +kernel
theorem dL_areRows_36 : decode cL_areRows 36 = .ok (.iconst 0, 1) := by decide +kernel
theorem dL_areRows_37 : decode cL_areRows 37 = .ok (.if_icmp .ne 7, 3) := by decide +kernel
theorem dL_areRows_40 : decode cL_areRows 40 = .ok (.iconst 1, 1) := by decide +kernel
theorem dL_areRows_41 : decode cL_areRows 41 = .ok (.goto 4, 3) := by decide +kernel
theorem dL_areRows_44 : decode cL_areRows 44 = .ok (.iconst 0, 1) := by decide +kernel
theorem dL_areRows_45 : decode cL_areRows 45 = .ok (.istore 5, 2) := by decide +kernel
theorem dL_areRows_47 : decode cL_areRows 47 = .ok (.iconst 0, 1) := by decide +kernel
theorem dL_areRows_48 : decode cL_areRows 48 = .ok (.istore 6, 2) := by decide +kernel
theorem dL_areRows_50 : decode cL_areRows 50 = .ok (.iload 6, 2) := by decide +kernel
theorem dL_areRows_52 : decode cL_areRows 52 = .ok (.bipush 8, 2) := by decide +kernel
theorem dL_areRows_54 : decode cL_areRows 54 = .ok (.if_icmp .ge 325, 3) := by decide +kernel
theorem dL_areRows_57 : decode cL_areRows 57 = .ok (.iload 5, 2) := by decide +kernel
theorem dL_areRows_59 : decode cL_areRows 59 = .ok (.ifCond .eq 320, 3) := by decide +kernel
theorem dL_areRows_62 : decode cL_areRows 62 = .ok (.aload_n 0, 1) := by decide +kernel
theorem dL_areRows_63 : decode cL_areRows 63 = .ok (.iload 6, 2) := by decide +kernel
theorem dL_areRows_65 : decode cL_areRows 65 = .ok (.iconst 0, 1) := by decide +kernel
theorem dL_areRows_66 : decode cL_areRows 66 = .ok (.invokevirtual 24, 3) := by decide +kernel
theorem dL_areRows_69 : decode cL_areRows 69 = .ok (.istore 7, 2) := by decide +kernel
theorem dL_areRows_71 : decode cL_areRows 71 = .ok (.aload_n 0, 1) := by decide +kernel
theorem dL_areRows_72 : decode cL_areRows 72 = .ok (.iload 6, 2) := by decide +kernel
theorem dL_areRows_74 : decode cL_areRows 74 = .ok (.iconst 1, 1) := by decide +kernel
theorem dL_areRows_75 : decode cL_areRows 75 = .ok (.invokevirtual 24, 3) := by decide +kernel
theorem dL_areRows_78 : decode cL_areRows 78 = .ok (.istore 8, 2) := by decide +kernel
theorem dL_areRows_80 : decode cL_areRows 80 = .ok (.aload_n 0, 1) := by decide +kernel
theorem dL_areRows_81 : decode cL_areRows 81 = .ok (.iload 6, 2) := by decide +kernel
theorem dL_areRows_83 : decode cL_areRows 83 = .ok (.iconst 2, 1) := by decide +kernel
theorem dL_areRows_84 : decode cL_areRows 84 = .ok (.invokevirtual 24, 3) := by decide +kernel
theorem dL_areRows_87 : decode cL_areRows 87 = .ok (.istore 9, 2) := by decide +kernel
theorem dL_areRows_89 : decode cL_areRows 89 = .ok (.iconst 0, 1) := by decide +kernel
theorem dL_areRows_90 : decode cL_areRows 90 = .ok (.istore 10, 2) := by decide +kernel
theorem dL_areRows_92 : decode cL_areRows 92 = .ok (.iconst 0, 1) := by decide +kernel
theorem dL_areRows_93 : decode cL_areRows 93 = .ok (.istore 11, 2) := by decide +kernel
theorem dL_areRows_95 : decode cL_areRows 95 = .ok (.iload_n 2, 1) := by decide +kernel
theorem dL_areRows_96 : decode cL_areRows 96 = .ok (.iload 7, 2) := by decide +kernel
theorem dL_areRows_98 : decode cL_areRows 98 = .ok (.bipush (-5), 2) := by decide +kernel
theorem dL_areRows_100 : decode cL_areRows 100 = .ok (.if_icmp .ne 7, 3) := by decide +kernel
theorem dL_areRows_103 : decode cL_areRows 103 = .ok (.iconst 0, 1) := by decide +kernel
theorem dL_areRows_104 : decode cL_areRows 104 = .ok (.goto 4, 3) := by decide +kernel
theorem dL_areRows_107 : decode cL_areRows 107 = .ok (.iconst 1, 1) := by decide +kernel
theorem dL_areRows_108 : decode cL_areRows 108 = .ok (.iadd, 1) := by decide +kernel
theorem dL_areRows_109 : decode cL_areRows 109 = .ok (.istore_n 2, 1) := by decide +kernel
theorem dL_areRows_110 : decode cL_areRows 110 = .ok (.iconst 0, 1) := by decide +kernel
theorem dL_areRows_111 : decode cL_areRows 111 = .ok (.istore 12, 2) := by decide +kernel
theorem dL_areRows_113 : decode cL_areRows 113 = .ok (.iload 12, 2) := by decide +kernel
theorem dL_areRows_115 : decode cL_areRows 115 = .ok (.bipush 8, 2) := by decide +kernel
theorem dL_areRows_117 : decode cL_areRows 117 = .ok (.if_icmp .ge 110, 3) := by decide +kernel
theorem dL_areRows_120 : decode cL_areRows 120 = .ok (.iload 5, 2) := by decide +kernel
theorem dL_areRows_122 : decode cL_areRows 122 = .ok (.ifCond .eq 105, 3) := by decide +kernel
theorem dL_areRows_125 : decode cL_areRows 125 = .ok (.aload_n 0, 1) := by decide +kernel
theorem dL_areRows_126 : decode cL_areRows 126 = .ok (.iload 6, 2) := by decide +kernel
theorem dL_areRows_128 : decode cL_areRows 128 = .ok (.iload 12, 2) := by decide +kernel
theorem dL_areRows_130 : decode cL_areRows 130 = .ok (.invokevirtual 36, 3) := by decide +kernel
theorem dL_areRows_133 : decode cL_areRows 133 = .ok (.istore 13, 2) := by decide +kernel
theorem dL_areRows_135 : decode cL_areRows 135 = .ok (.iload 10, 2) := by decide +kernel
theorem dL_areRows_137 : decode cL_areRows 137 = .ok (.iload 13, 2) := by decide +kernel
theorem dL_areRows_139 : decode cL_areRows 139 = .ok (.iadd, 1) := by decide +kernel
theorem dL_areRows_140 : decode cL_areRows 140 = .ok (.istore 10, 2) := by decide +kernel
theorem dL_areRows_142 : decode cL_areRows 142 = .ok (.iload 11, 2) := by decide +kernel
theorem dL_areRows_144 : decode cL_areRows 144 = .ok (.iload 13, 2) := by decide +kernel
theorem dL_areRows_146 : decode cL_areRows 146 = .ok (.ifCond .le 7, 3) := by decide +kernel
theorem dL_areRows_149 : decode cL_areRows 149 = .ok (.iconst 1, 1) := by decide +kernel
theorem dL_areRows_150 : decode cL_areRows 150 = .ok (.goto 4, 3) := by decide +kernel
theorem dL_areRows_153 : decode cL_areRows 153 = .ok (.iconst 0, 1) := by decide +kernel
theorem dL_areRows_154 : decode cL_areRows 154 = .ok (.iadd, 1) := by decide +kernel
theorem dL_areRows_155 : decode cL_areRows 155 = .ok (.istore 11, 2) := by decide +kernel
theorem dL_areRows_157 : decode cL_areRows 157 = .ok (.iload 13, 2) := by decide +kernel
theorem dL_areRows_159 : decode cL_areRows 159 = .ok (.ifCond .lt 59, 3) := by decide +kernel
theorem dL_areRows_162 : decode cL_areRows 162 = .ok (.iload 13, 2) := by decide +kernel
theorem dL_areRows_164 : decode cL_areRows 164 = .ok (.ifCond .gt 31, 3) := by decide +kernel
theorem dL_areRows_167 : decode cL_areRows 167 = .ok (.iload 12, 2) := by decide +kernel
theorem dL_areRows_169 : decode cL_areRows 169 = .ok (.iload 8, 2) := by decide +kernel
theorem dL_areRows_171 : decode cL_areRows 171 = .ok (.if_icmp .lt 24, 3) := by decide +kernel
theorem dL_areRows_174 : decode cL_areRows 174 = .ok (.iload 12, 2) := by decide +kernel
theorem dL_areRows_176 : decode cL_areRows 176 = .ok (.iload 9, 2) := by decide +kernel
theorem dL_areRows_178 : decode cL_areRows 178 = .ok (.if_icmp .gt 17, 3) := by decide +kernel
theorem dL_areRows_181 : decode cL_areRows 181 = .ok (.iload 8, 2) := by decide +kernel
theorem dL_areRows_183 : decode cL_areRows 183 = .ok (.iload 12, 2) := by decide +kernel
theorem dL_areRows_185 : decode cL_areRows 185 = .ok (.if_icmp .ge 33, 3) := by decide +kernel
theorem dL_areRows_188 : decode cL_areRows 188 = .ok (.iload 12, 2) := by decide +kernel
theorem dL_areRows_190 : decode cL_areRows 190 = .ok (.iload 9, 2) := by decide +kernel
theorem dL_areRows_192 : decode cL_areRows 192 = .ok (.if_icmp .ge 26, 3) := by decide +kernel
theorem dL_areRows_195 : decode cL_areRows 195 = .ok (.iload 13, 2) := by decide +kernel
theorem dL_areRows_197 : decode cL_areRows 197 = .ok (.ifCond .eq 17, 3) := by decide +kernel
theorem dL_areRows_200 : decode cL_areRows 200 = .ok (.iload 12, 2) := by decide +kernel
theorem dL_areRows_202 : decode cL_areRows 202 = .ok (.iload 8, 2) := by decide +kernel
theorem dL_areRows_204 : decode cL_areRows 204 = .ok (.if_icmp .lt 14, 3) := by decide +kernel
theorem dL_areRows_207 : decode cL_areRows 207 = .ok (.iload 12, 2) := by decide +kernel
theorem dL_areRows_209 : decode cL_areRows 209 = .ok (.iload 9, 2) := by decide +kernel
theorem dL_areRows_211 : decode cL_areRows 211 = .ok (.if_icmp .gt 7, 3) := by decide +kernel
theorem dL_areRows_214 : decode cL_areRows 214 = .ok (.iconst 1, 1) := by decide +kernel
theorem dL_areRows_215 : decode cL_areRows 215 = .ok (.goto 4, 3) := by decide +kernel
theorem dL_areRows_218 : decode cL_areRows 218 = .ok (.iconst 0, 1) := by decide +kernel
theorem dL_areRows_219 : decode cL_areRows 219 = .ok (.istore 5, 2) := by decide +kernel
theorem dL_areRows_221 : decode cL_areRows 221 = .ok (.iinc 12 1, 3) := by decide +kernel
theorem dL_areRows_224 : decode cL_areRows 224 = .ok (.goto (-111), 3) := by decide +kernel
theorem dL_areRows_227 : decode cL_areRows 227 = .ok (.iload 11, 2) := by decide +kernel
theorem dL_areRows_229 : decode cL_areRows 229 = .ok (.iload 4, 2) := by decide +kernel
theorem dL_areRows_231 : decode cL_areRows 231 = .ok (.if_icmp .le 8, 3) := by decide +kernel
theorem dL_areRows_234 : decode cL_areRows 234 = .ok (.iload 11, 2) := by decide +kernel
theorem dL_areRows_236 : decode cL_areRows 236 = .ok (.goto 5, 3) := by decide +kernel
theorem dL_areRows_239 : decode cL_areRows 239 = .ok (.iload 4, 2) := by decide +kernel
theorem dL_areRows_241 : decode cL_areRows 241 = .ok (.istore 4, 2) := by decide +kernel
theorem dL_areRows_243 : decode cL_areRows 243 = .ok (.iload 5, 2) := by decide +kernel
theorem dL_areRows_245 : decode cL_areRows 245 = .ok (.ifCond .eq 125, 3) := by decide +kernel
theorem dL_areRows_248 : decode cL_areRows 248 = .ok (.iload 10, 2) := by decide +kernel
theorem dL_areRows_250 : decode cL_areRows 250 = .ok (.iload_n 1, 1) := by decide +kernel
theorem dL_areRows_251 : decode cL_areRows 251 = .ok (.if_icmp .ne 119, 3) := by decide +kernel
theorem dL_areRows_254 : decode cL_areRows 254 = .ok (.aload_n 0, 1) := by decide +kernel
theorem dL_areRows_255 : decode cL_areRows 255 = .ok (.iload 6, 2) := by decide +kernel
theorem dL_areRows_257 : decode cL_areRows 257 = .ok (.iload 8, 2) := by decide +kernel
theorem dL_areRows_259 : decode cL_areRows 259 = .ok (.invokevirtual 36, 3) := by decide +kernel
theorem dL_areRows_262 : decode cL_areRows 262 = .ok (.ifCond .le 108, 3) := by decide +kernel
theorem dL_areRows_265 : decode cL_areRows 265 = .ok (.aload_n 0, 1) := by decide +kernel
theorem dL_areRows_266 : decode cL_areRows 266 = .ok (.iload 6, 2) := by decide +kernel
theorem dL_areRows_268 : decode cL_areRows 268 = .ok (.iload 9, 2) := by decide +kernel
theorem dL_areRows_270 : decode cL_areRows 270 = .ok (.invokevirtual 36, 3) := by decide +kernel
theorem dL_areRows_273 : decode cL_areRows 273 = .ok (.ifCond .le 97, 3) := by decide +kernel
theorem dL_areRows_276 : decode cL_areRows 276 = .ok (.iload 7, 2) := by decide +kernel
theorem dL_areRows_278 : decode cL_areRows 278 = .ok (.bipush (-5), 2) := by decide +kernel
theorem dL_areRows_280 : decode cL_areRows 280 = .ok (.if_icmp .eq 17, 3) := by decide +kernel
theorem dL_areRows_283 : decode cL_areRows 283 = .ok (.iload 7, 2) := by decide +kernel
theorem dL_areRows_285 : decode cL_areRows 285 = .ok (.iload 8, 2) := by decide +kernel
theorem dL_areRows_287 : decode cL_areRows 287 = .ok (.if_icmp .ne 83, 3) := by decide +kernel
theorem dL_areRows_290 : decode cL_areRows 290 = .ok (.iload 7, 2) := by decide +kernel
theorem dL_areRows_292 : decode cL_areRows 292 = .ok (.iload 9, 2) := by decide +kernel
theorem dL_areRows_294 : decode cL_areRows 294 = .ok (.if_icmp .ne 76, 3) := by decide +kernel
theorem dL_areRows_297 : decode cL_areRows 297 = .ok (.iload 6, 2) := by decide +kernel
theorem dL_areRows_299 : decode cL_areRows 299 = .ok (.ifCond .eq 67, 3) := by decide +kernel
theorem dL_areRows_302 : decode cL_areRows 302 = .ok (.iload 8, 2) := by decide +kernel
theorem dL_areRows_304 : decode cL_areRows 304 = .ok (.aload_n 0, 1) := by decide +kernel
theorem dL_areRows_305 : decode cL_areRows 305 = .ok (.iload 6, 2) := by decide +kernel
theorem dL_areRows_307 : decode cL_areRows 307 = .ok (.iconst 1, 1) := by decide +kernel
theorem dL_areRows_308 : decode cL_areRows 308 = .ok (.isub, 1) := by decide +kernel
theorem dL_areRows_309 : decode cL_areRows 309 = .ok (.iconst 1, 1) := by decide +kernel
theorem dL_areRows_310 : decode cL_areRows 310 = .ok (.invokevirtual 24, 3) := by decide +kernel
theorem dL_areRows_313 : decode cL_areRows 313 = .ok (.isub, 1) := by decide +kernel
theorem dL_areRows_314 : decode cL_areRows 314 = .ok (.iconst 2, 1) := by decide +kernel
theorem dL_areRows_315 : decode cL_areRows 315 = .ok (.if_icmp .ge 55, 3) := by decide +kernel
theorem dL_areRows_318 : decode cL_areRows 318 = .ok (.aload_n 0, 1) := by decide +kernel
theorem dL_areRows_319 : decode cL_areRows 319 = .ok (.iload 6, 2) := by decide +kernel
theorem dL_areRows_321 : decode cL_areRows 321 = .ok (.iconst 1, 1) := by decide +kernel
theorem dL_areRows_322 : decode cL_areRows 322 = .ok (.isub, 1) := by decide +kernel
theorem dL_areRows_323 : decode cL_areRows 323 = .ok (.iconst 1, 1) := by decide +kernel
theorem dL_areRows_324 : decode cL_areRows 324 = .ok (.invokevirtual 24, 3) := by decide +kernel
theorem dL_areRows_327 : decode cL_areRows 327 = .ok (.iload 8, 2) := by decide +kernel
theorem dL_areRows_329 : decode cL_areRows 329 = .ok (.isub, 1) := by decide +kernel
theorem dL_areRows_330 : decode cL_areRows 330 = .ok (.iconst 2, 1) := by decide +kernel
theorem dL_areRows_331 : decode cL_areRows 331 = .ok (.if_icmp .ge 39, 3) := by decide +kernel
theorem dL_areRows_334 : decode cL_areRows 334 = .ok (.iload 9, 2) := by decide +kernel
theorem dL_areRows_336 : decode cL_areRows 336 = .ok (.aload_n 0, 1) := by decide +kernel
theorem dL_areRows_337 : decode cL_areRows 337 = .ok (.iload 6, 2) := by decide +kernel
theorem dL_areRows_339 : decode cL_areRows 339 = .ok (.iconst 1, 1) := by decide +kernel
theorem dL_areRows_340 : decode cL_areRows 340 = .ok (.isub, 1) := by decide +kernel
theorem dL_areRows_341 : decode cL_areRows 341 = .ok (.iconst 2, 1) := by decide +kernel
theorem dL_areRows_342 : decode cL_areRows 342 = .ok (.invokevirtual 24, 3) := by decide +kernel
theorem dL_areRows_345 : decode cL_areRows 345 = .ok (.isub, 1) := by decide +kernel
theorem dL_areRows_346 : decode cL_areRows 346 = .ok (.iconst 2, 1) := by decide +kernel
theorem dL_areRows_347 : decode cL_areRows 347 = .ok (.if_icmp .ge 23, 3) := by decide +kernel
theorem dL_areRows_350 : decode cL_areRows 350 = .ok (.aload_n 0, 1) := by decide +kernel
theorem dL_areRows_351 : decode cL_areRows 351 = .ok (.iload 6, 2) := by decide +kernel
theorem dL_areRows_353 : decode cL_areRows 353 = .ok (.iconst 1, 1) := by decide +kernel
theorem dL_areRows_354 : decode cL_areRows 354 = .ok (.isub, 1) := by decide +kernel
theorem dL_areRows_355 : decode cL_areRows 355 = .ok (.iconst 2, 1) := by decide +kernel
theorem dL_areRows_356 : decode cL_areRows 356 = .ok (.invokevirtual 24, 3) := by decide +kernel
theorem dL_areRows_359 : decode cL_areRows 359 = .ok (.iload 9, 2) := by decide +kernel
theorem dL_areRows_361 : decode cL_areRows 361 = .ok (.isub, 1) := by decide +kernel
theorem dL_areRows_362 : decode cL_areRows 362 = .ok (.iconst 2, 1) := by decide +kernel
theorem dL_areRows_363 : decode cL_areRows 363 = .ok (.if_icmp .ge 7, 3) := by decide +kernel
theorem dL_areRows_366 : decode cL_areRows 366 = .ok (.iconst 1, 1) := by decide +kernel
theorem dL_areRows_367 : decode cL_areRows 367 = .ok (.goto 4, 3) := by decide +kernel
