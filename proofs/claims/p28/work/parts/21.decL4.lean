theorem dL_refusesAny_34 : decode cL_refusesAny 34 = .ok (.isub, 1) := by decide +kernel
theorem dL_refusesAny_35 : decode cL_refusesAny 35 = .ok (.goto 9, 3) := by decide +kernel
theorem dL_refusesAny_38 : decode cL_refusesAny 38 = .ok (.iconst 3, 1) := by decide +kernel
theorem dL_refusesAny_39 : decode cL_refusesAny 39 = .ok (.iload_n 1, 1) := by decide +kernel
theorem dL_refusesAny_40 : decode cL_refusesAny 40 = .ok (.bipush 99, 2) := by decide +kernel
theorem dL_refusesAny_42 : decode cL_refusesAny 42 = .ok (.irem, 1) := by decide +kernel
theorem dL_refusesAny_43 : decode cL_refusesAny 43 = .ok (.iadd, 1) := by decide +kernel
theorem dL_refusesAny_44 : decode cL_refusesAny 44 = .ok (.istore_n 3, 1) := by decide +kernel
theorem dL_refusesAny_45 : decode cL_refusesAny 45 = .ok (.iload_n 1, 1) := by decide +kernel
theorem dL_refusesAny_46 : decode cL_refusesAny 46 = .ok (.iconst 2, 1) := by decide +kernel
theorem dL_refusesAny_47 : decode cL_refusesAny 47 = .ok (.irem, 1) := by decide +kernel
theorem dL_refusesAny_48 : decode cL_refusesAny 48 = .ok (.ifCond .ne 12, 3) := by decide +kernel
theorem dL_refusesAny_51 : decode cL_refusesAny 51 = .ok (.iconst (-1), 1) := by decide +kernel
theorem dL_refusesAny_52 : decode cL_refusesAny 52 = .ok (.iload_n 1, 1) := by decide +kernel
theorem dL_refusesAny_53 : decode cL_refusesAny 53 = .ok (.bipush 99, 2) := by decide +kernel
theorem dL_refusesAny_55 : decode cL_refusesAny 55 = .ok (.irem, 1) := by decide +kernel
theorem dL_refusesAny_56 : decode cL_refusesAny 56 = .ok (.isub, 1) := by decide +kernel
theorem dL_refusesAny_57 : decode cL_refusesAny 57 = .ok (.goto 10, 3) := by decide +kernel
theorem dL_refusesAny_60 : decode cL_refusesAny 60 = .ok (.bipush 8, 2) := by decide +kernel
theorem dL_refusesAny_62 : decode cL_refusesAny 62 = .ok (.iload_n 1, 1) := by decide +kernel
theorem dL_refusesAny_63 : decode cL_refusesAny 63 = .ok (.bipush 99, 2) := by decide +kernel
theorem dL_refusesAny_65 : decode cL_refusesAny 65 = .ok (.irem, 1) := by decide +kernel
theorem dL_refusesAny_66 : decode cL_refusesAny 66 = .ok (.iadd, 1) := by decide +kernel
theorem dL_refusesAny_67 : decode cL_refusesAny 67 = .ok (.istore 4, 2) := by decide +kernel
theorem dL_refusesAny_69 : decode cL_refusesAny 69 = .ok (.aload_n 0, 1) := by decide +kernel
theorem dL_refusesAny_70 : decode cL_refusesAny 70 = .ok (.iload_n 2, 1) := by decide +kernel
theorem dL_refusesAny_71 : decode cL_refusesAny 71 = .ok (.bipush 100, 2) := by decide +kernel
theorem dL_refusesAny_73 : decode cL_refusesAny 73 = .ok (.invokevirtual 48, 3) := by decide +kernel
theorem dL_refusesAny_76 : decode cL_refusesAny 76 = .ok (.iconst (-1), 1) := by decide +kernel
theorem dL_refusesAny_77 : decode cL_refusesAny 77 = .ok (.if_icmp .ne 404, 3) := by decide +kernel
theorem dL_refusesAny_80 : decode cL_refusesAny 80 = .ok (.aload_n 0, 1) := by decide +kernel
theorem dL_refusesAny_81 : decode cL_refusesAny 81 = .ok (.iconst 0, 1) := by decide +kernel
theorem dL_refusesAny_82 : decode cL_refusesAny 82 = .ok (.iload_n 1, 1) := by decide +kernel
theorem dL_refusesAny_83 : decode cL_refusesAny 83 = .ok (.iconst 2, 1) := by decide +kernel
theorem dL_refusesAny_84 : decode cL_refusesAny 84 = .ok (.irem, 1) := by decide +kernel
theorem dL_refusesAny_85 : decode cL_refusesAny 85 = .ok (.ifCond .ne 7, 3) := by decide +kernel
theorem dL_refusesAny_88 : decode cL_refusesAny 88 = .ok (.iconst (-1), 1) := by decide +kernel
theorem dL_refusesAny_89 : decode cL_refusesAny 89 = .ok (.goto 5, 3) := by decide +kernel
theorem dL_refusesAny_92 : decode cL_refusesAny 92 = .ok (.bipush 100, 2) := by decide +kernel
theorem dL_refusesAny_94 : decode cL_refusesAny 94 = .ok (.invokevirtual 48, 3) := by decide +kernel
theorem dL_refusesAny_97 : decode cL_refusesAny 97 = .ok (.bipush (-2), 2) := by decide +kernel
theorem dL_refusesAny_99 : decode cL_refusesAny 99 = .ok (.if_icmp .ne 382, 3) := by decide +kernel
theorem dL_refusesAny_102 : decode cL_refusesAny 102 = .ok (.aload_n 0, 1) := by decide +kernel
theorem dL_refusesAny_103 : decode cL_refusesAny 103 = .ok (.iload_n 1, 1) := by decide +kernel
theorem dL_refusesAny_104 : decode cL_refusesAny 104 = .ok (.bipush 64, 2) := by decide +kernel
theorem dL_refusesAny_106 : decode cL_refusesAny 106 = .ok (.irem, 1) := by decide +kernel
theorem dL_refusesAny_107 : decode cL_refusesAny 107 = .ok (.aload_n 0, 1) := by decide +kernel
theorem dL_refusesAny_108 : decode cL_refusesAny 108 = .ok (.iload_n 1, 1) := by decide +kernel
theorem dL_refusesAny_109 : decode cL_refusesAny 109 = .ok (.bipush 64, 2) := by decide +kernel
theorem dL_refusesAny_111 : decode cL_refusesAny 111 = .ok (.irem, 1) := by decide +kernel
theorem dL_refusesAny_112 : decode cL_refusesAny 112 = .ok (.iconst 0, 1) := by decide +kernel
theorem dL_refusesAny_113 : decode cL_refusesAny 113 = .ok (.invokevirtual 27, 3) := by decide +kernel
theorem dL_refusesAny_116 : decode cL_refusesAny 116 = .ok (.invokevirtual 48, 3) := by decide +kernel
theorem dL_refusesAny_119 : decode cL_refusesAny 119 = .ok (.bipush (-5), 2) := by decide +kernel
theorem dL_refusesAny_121 : decode cL_refusesAny 121 = .ok (.if_icmp .ne 360, 3) := by decide +kernel
theorem dL_refusesAny_124 : decode cL_refusesAny 124 = .ok (.aload_n 0, 1) := by decide +kernel
theorem dL_refusesAny_125 : decode cL_refusesAny 125 = .ok (.iload_n 1, 1) := by decide +kernel
theorem dL_refusesAny_126 : decode cL_refusesAny 126 = .ok (.iconst 2, 1) := by decide +kernel
theorem dL_refusesAny_127 : decode cL_refusesAny 127 = .ok (.irem, 1) := by decide +kernel
theorem dL_refusesAny_128 : decode cL_refusesAny 128 = .ok (.ifCond .ne 7, 3) := by decide +kernel
theorem dL_refusesAny_131 : decode cL_refusesAny 131 = .ok (.iconst 0, 1) := by decide +kernel
theorem dL_refusesAny_132 : decode cL_refusesAny 132 = .ok (.goto 5, 3) := by decide +kernel
theorem dL_refusesAny_135 : decode cL_refusesAny 135 = .ok (.bipush 10, 2) := by decide +kernel
theorem dL_refusesAny_137 : decode cL_refusesAny 137 = .ok (.invokevirtual 51, 3) := by decide +kernel
theorem dL_refusesAny_140 : decode cL_refusesAny 140 = .ok (.bipush (-2), 2) := by decide +kernel
theorem dL_refusesAny_142 : decode cL_refusesAny 142 = .ok (.if_icmp .ne 339, 3) := by decide +kernel
theorem dL_refusesAny_145 : decode cL_refusesAny 145 = .ok (.aload_n 0, 1) := by decide +kernel
theorem dL_refusesAny_146 : decode cL_refusesAny 146 = .ok (.iload_n 1, 1) := by decide +kernel
theorem dL_refusesAny_147 : decode cL_refusesAny 147 = .ok (.iconst 2, 1) := by decide +kernel
theorem dL_refusesAny_148 : decode cL_refusesAny 148 = .ok (.irem, 1) := by decide +kernel
theorem dL_refusesAny_149 : decode cL_refusesAny 149 = .ok (.ifCond .ne 7, 3) := by decide +kernel
theorem dL_refusesAny_152 : decode cL_refusesAny 152 = .ok (.iconst 0, 1) := by decide +kernel
theorem dL_refusesAny_153 : decode cL_refusesAny 153 = .ok (.goto 5, 3) := by decide +kernel
theorem dL_refusesAny_156 : decode cL_refusesAny 156 = .ok (.bipush 100, 2) := by decide +kernel
theorem dL_refusesAny_158 : decode cL_refusesAny 158 = .ok (.invokevirtual 54, 3) := by decide +kernel
theorem dL_refusesAny_161 : decode cL_refusesAny 161 = .ok (.bipush (-2), 2) := by decide +kernel
theorem dL_refusesAny_163 : decode cL_refusesAny 163 = .ok (.if_icmp .ne 318, 3) := by decide +kernel
theorem dL_refusesAny_166 : decode cL_refusesAny 166 = .ok (.aload_n 0, 1) := by decide +kernel
theorem dL_refusesAny_167 : decode cL_refusesAny 167 = .ok (.iload_n 1, 1) := by decide +kernel
theorem dL_refusesAny_168 : decode cL_refusesAny 168 = .ok (.iconst 2, 1) := by decide +kernel
theorem dL_refusesAny_169 : decode cL_refusesAny 169 = .ok (.irem, 1) := by decide +kernel
theorem dL_refusesAny_170 : decode cL_refusesAny 170 = .ok (.ifCond .ne 7, 3) := by decide +kernel
theorem dL_refusesAny_173 : decode cL_refusesAny 173 = .ok (.iconst (-1), 1) := by decide +kernel
theorem dL_refusesAny_174 : decode cL_refusesAny 174 = .ok (.goto 4, 3) := by decide +kernel
theorem dL_refusesAny_177 : decode cL_refusesAny 177 = .ok (.iconst 3, 1) := by decide +kernel
theorem dL_refusesAny_178 : decode cL_refusesAny 178 = .ok (.bipush 99, 2) := by decide +kernel
theorem dL_refusesAny_180 : decode cL_refusesAny 180 = .ok (.invokevirtual 57, 3) := by decide +kernel
theorem dL_refusesAny_183 : decode cL_refusesAny 183 = .ok (.iconst (-1), 1) := by decide +kernel
theorem dL_refusesAny_184 : decode cL_refusesAny 184 = .ok (.if_icmp .ne 297, 3) := by decide +kernel
theorem dL_refusesAny_187 : decode cL_refusesAny 187 = .ok (.aload_n 0, 1) := by decide +kernel
theorem dL_refusesAny_188 : decode cL_refusesAny 188 = .ok (.iconst 0, 1) := by decide +kernel
theorem dL_refusesAny_189 : decode cL_refusesAny 189 = .ok (.iload_n 1, 1) := by decide +kernel
theorem dL_refusesAny_190 : decode cL_refusesAny 190 = .ok (.iconst 2, 1) := by decide +kernel
theorem dL_refusesAny_191 : decode cL_refusesAny 191 = .ok (.irem, 1) := by decide +kernel
theorem dL_refusesAny_192 : decode cL_refusesAny 192 = .ok (.ifCond .ne 7, 3) := by decide +kernel
theorem dL_refusesAny_195 : decode cL_refusesAny 195 = .ok (.iconst 0, 1) := by decide +kernel
theorem dL_refusesAny_196 : decode cL_refusesAny 196 = .ok (.goto 5, 3) := by decide +kernel
theorem dL_refusesAny_199 : decode cL_refusesAny 199 = .ok (.bipush 31, 2) := by decide +kernel
theorem dL_refusesAny_201 : decode cL_refusesAny 201 = .ok (.invokevirtual 57, 3) := by decide +kernel
theorem dL_refusesAny_204 : decode cL_refusesAny 204 = .ok (.bipush (-2), 2) := by decide +kernel
theorem dL_refusesAny_206 : decode cL_refusesAny 206 = .ok (.if_icmp .ne 275, 3) := by decide +kernel
theorem dL_refusesAny_209 : decode cL_refusesAny 209 = .ok (.aload_n 0, 1) := by decide +kernel
theorem dL_refusesAny_210 : decode cL_refusesAny 210 = .ok (.iconst 1, 1) := by decide +kernel
theorem dL_refusesAny_211 : decode cL_refusesAny 211 = .ok (.iload_n 1, 1) := by decide +kernel
theorem dL_refusesAny_212 : decode cL_refusesAny 212 = .ok (.iconst 2, 1) := by decide +kernel
theorem dL_refusesAny_213 : decode cL_refusesAny 213 = .ok (.irem, 1) := by decide +kernel
theorem dL_refusesAny_214 : decode cL_refusesAny 214 = .ok (.ifCond .ne 7, 3) := by decide +kernel
theorem dL_refusesAny_217 : decode cL_refusesAny 217 = .ok (.iconst (-1), 1) := by decide +kernel
theorem dL_refusesAny_218 : decode cL_refusesAny 218 = .ok (.goto 4, 3) := by decide +kernel
theorem dL_refusesAny_221 : decode cL_refusesAny 221 = .ok (.iconst 3, 1) := by decide +kernel
theorem dL_refusesAny_222 : decode cL_refusesAny 222 = .ok (.invokevirtual 57, 3) := by decide +kernel
theorem dL_refusesAny_225 : decode cL_refusesAny 225 = .ok (.bipush (-2), 2) := by decide +kernel
theorem dL_refusesAny_227 : decode cL_refusesAny 227 = .ok (.if_icmp .ne 254, 3) := by decide +kernel
theorem dL_refusesAny_230 : decode cL_refusesAny 230 = .ok (.aload_n 0, 1) := by decide +kernel
theorem dL_refusesAny_231 : decode cL_refusesAny 231 = .ok (.iconst 2, 1) := by decide +kernel
theorem dL_refusesAny_232 : decode cL_refusesAny 232 = .ok (.iload_n 1, 1) := by decide +kernel
theorem dL_refusesAny_233 : decode cL_refusesAny 233 = .ok (.iconst 2, 1) := by decide +kernel
theorem dL_refusesAny_234 : decode cL_refusesAny 234 = .ok (.irem, 1) := by decide +kernel
theorem dL_refusesAny_235 : decode cL_refusesAny 235 = .ok (.ifCond .ne 7, 3) := by decide +kernel
theorem dL_refusesAny_238 : decode cL_refusesAny 238 = .ok (.iconst 0, 1) := by decide +kernel
theorem dL_refusesAny_239 : decode cL_refusesAny 239 = .ok (.goto 5, 3) := by decide +kernel
theorem dL_refusesAny_242 : decode cL_refusesAny 242 = .ok (.bipush 10, 2) := by decide +kernel
theorem dL_refusesAny_244 : decode cL_refusesAny 244 = .ok (.invokevirtual 57, 3) := by decide +kernel
theorem dL_refusesAny_247 : decode cL_refusesAny 247 = .ok (.bipush (-2), 2) := by decide +kernel
theorem dL_refusesAny_249 : decode cL_refusesAny 249 = .ok (.if_icmp .ne 232, 3) := by decide +kernel
theorem dL_refusesAny_252 : decode cL_refusesAny 252 = .ok (.aload_n 0, 1) := by decide +kernel
theorem dL_refusesAny_253 : decode cL_refusesAny 253 = .ok (.iload_n 1, 1) := by decide +kernel
theorem dL_refusesAny_254 : decode cL_refusesAny 254 = .ok (.iconst 3, 1) := by decide +kernel
theorem dL_refusesAny_255 : decode cL_refusesAny 255 = .ok (.irem, 1) := by decide +kernel
theorem dL_refusesAny_256 : decode cL_refusesAny 256 = .ok (.aload_n 0, 1) := by decide +kernel
theorem dL_refusesAny_257 : decode cL_refusesAny 257 = .ok (.bipush 12, 2) := by decide +kernel
theorem dL_refusesAny_259 : decode cL_refusesAny 259 = .ok (.iload_n 1, 1) := by decide +kernel
theorem dL_refusesAny_260 : decode cL_refusesAny 260 = .ok (.iconst 3, 1) := by decide +kernel
theorem dL_refusesAny_261 : decode cL_refusesAny 261 = .ok (.irem, 1) := by decide +kernel
theorem dL_refusesAny_262 : decode cL_refusesAny 262 = .ok (.iadd, 1) := by decide +kernel
theorem dL_refusesAny_263 : decode cL_refusesAny 263 = .ok (.invokevirtual 14, 3) := by decide +kernel
theorem dL_refusesAny_266 : decode cL_refusesAny 266 = .ok (.invokevirtual 57, 3) := by decide +kernel
theorem dL_refusesAny_269 : decode cL_refusesAny 269 = .ok (.bipush (-5), 2) := by decide +kernel
theorem dL_refusesAny_271 : decode cL_refusesAny 271 = .ok (.if_icmp .ne 210, 3) := by decide +kernel
theorem dL_refusesAny_274 : decode cL_refusesAny 274 = .ok (.aload_n 0, 1) := by decide +kernel
theorem dL_refusesAny_275 : decode cL_refusesAny 275 = .ok (.iload_n 3, 1) := by decide +kernel
theorem dL_refusesAny_276 : decode cL_refusesAny 276 = .ok (.iconst 0, 1) := by decide +kernel
theorem dL_refusesAny_277 : decode cL_refusesAny 277 = .ok (.invokevirtual 60, 3) := by decide +kernel
theorem dL_refusesAny_280 : decode cL_refusesAny 280 = .ok (.iconst (-1), 1) := by decide +kernel
theorem dL_refusesAny_281 : decode cL_refusesAny 281 = .ok (.if_icmp .ne 200, 3) := by decide +kernel
theorem dL_refusesAny_284 : decode cL_refusesAny 284 = .ok (.aload_n 0, 1) := by decide +kernel
theorem dL_refusesAny_285 : decode cL_refusesAny 285 = .ok (.iconst 0, 1) := by decide +kernel
theorem dL_refusesAny_286 : decode cL_refusesAny 286 = .ok (.iload_n 2, 1) := by decide +kernel
theorem dL_refusesAny_287 : decode cL_refusesAny 287 = .ok (.invokevirtual 60, 3) := by decide +kernel
theorem dL_refusesAny_290 : decode cL_refusesAny 290 = .ok (.iconst (-1), 1) := by decide +kernel
theorem dL_refusesAny_291 : decode cL_refusesAny 291 = .ok (.if_icmp .ne 190, 3) := by decide +kernel
theorem dL_refusesAny_294 : decode cL_refusesAny 294 = .ok (.aload_n 0, 1) := by decide +kernel
theorem dL_refusesAny_295 : decode cL_refusesAny 295 = .ok (.iload_n 1, 1) := by decide +kernel
theorem dL_refusesAny_296 : decode cL_refusesAny 296 = .ok (.iconst 3, 1) := by decide +kernel
theorem dL_refusesAny_297 : decode cL_refusesAny 297 = .ok (.irem, 1) := by decide +kernel
theorem dL_refusesAny_298 : decode cL_refusesAny 298 = .ok (.aload_n 0, 1) := by decide +kernel
theorem dL_refusesAny_299 : decode cL_refusesAny 299 = .ok (.iload_n 1, 1) := by decide +kernel
theorem dL_refusesAny_300 : decode cL_refusesAny 300 = .ok (.iconst 3, 1) := by decide +kernel
theorem dL_refusesAny_301 : decode cL_refusesAny 301 = .ok (.irem, 1) := by decide +kernel
theorem dL_refusesAny_302 : decode cL_refusesAny 302 = .ok (.iconst 0, 1) := by decide +kernel
theorem dL_refusesAny_303 : decode cL_refusesAny 303 = .ok (.invokevirtual 20, 3) := by decide +kernel
theorem dL_refusesAny_306 : decode cL_refusesAny 306 = .ok (.invokevirtual 60, 3) := by decide +kernel
theorem dL_refusesAny_309 : decode cL_refusesAny 309 = .ok (.bipush (-5), 2) := by decide +kernel
theorem dL_refusesAny_311 : decode cL_refusesAny 311 = .ok (.if_icmp .ne 170, 3) := by decide +kernel
theorem dL_refusesAny_314 : decode cL_refusesAny 314 = .ok (.aload_n 0, 1) := by decide +kernel
theorem dL_refusesAny_315 : decode cL_refusesAny 315 = .ok (.iload_n 3, 1) := by decide +kernel
theorem dL_refusesAny_316 : decode cL_refusesAny 316 = .ok (.invokevirtual 63, 3) := by decide +kernel
theorem dL_refusesAny_319 : decode cL_refusesAny 319 = .ok (.iconst (-1), 1) := by decide +kernel
theorem dL_refusesAny_320 : decode cL_refusesAny 320 = .ok (.if_icmp .ne 161, 3) := by decide +kernel
theorem dL_refusesAny_323 : decode cL_refusesAny 323 = .ok (.aload_n 0, 1) := by decide +kernel
theorem dL_refusesAny_324 : decode cL_refusesAny 324 = .ok (.iconst 0, 1) := by decide +kernel
theorem dL_refusesAny_325 : decode cL_refusesAny 325 = .ok (.iconst 1, 1) := by decide +kernel
theorem dL_refusesAny_326 : decode cL_refusesAny 326 = .ok (.invokevirtual 20, 3) := by decide +kernel
theorem dL_refusesAny_329 : decode cL_refusesAny 329 = .ok (.aload_n 0, 1) := by decide +kernel
theorem dL_refusesAny_330 : decode cL_refusesAny 330 = .ok (.bipush 14, 2) := by decide +kernel
theorem dL_refusesAny_332 : decode cL_refusesAny 332 = .ok (.invokevirtual 14, 3) := by decide +kernel
theorem dL_refusesAny_335 : decode cL_refusesAny 335 = .ok (.if_icmp .ge 13, 3) := by decide +kernel
theorem dL_refusesAny_338 : decode cL_refusesAny 338 = .ok (.aload_n 0, 1) := by decide +kernel
theorem dL_refusesAny_339 : decode cL_refusesAny 339 = .ok (.iconst 0, 1) := by decide +kernel
theorem dL_refusesAny_340 : decode cL_refusesAny 340 = .ok (.invokevirtual 63, 3) := by decide +kernel
theorem dL_refusesAny_343 : decode cL_refusesAny 343 = .ok (.bipush (-4), 2) := by decide +kernel
theorem dL_refusesAny_345 : decode cL_refusesAny 345 = .ok (.if_icmp .ne 136, 3) := by decide +kernel
theorem dL_refusesAny_348 : decode cL_refusesAny 348 = .ok (.aload_n 0, 1) := by decide +kernel
theorem dL_refusesAny_349 : decode cL_refusesAny 349 = .ok (.iconst 0, 1) := by decide +kernel
theorem dL_refusesAny_350 : decode cL_refusesAny 350 = .ok (.iconst 1, 1) := by decide +kernel
theorem dL_refusesAny_351 : decode cL_refusesAny 351 = .ok (.invokevirtual 20, 3) := by decide +kernel
theorem dL_refusesAny_354 : decode cL_refusesAny 354 = .ok (.aload_n 0, 1) := by decide +kernel
theorem dL_refusesAny_355 : decode cL_refusesAny 355 = .ok (.bipush 14, 2) := by decide +kernel
theorem dL_refusesAny_357 : decode cL_refusesAny 357 = .ok (.invokevirtual 14, 3) := by decide +kernel
theorem dL_refusesAny_360 : decode cL_refusesAny 360 = .ok (.if_icmp .lt 27, 3) := by decide +kernel
theorem dL_refusesAny_363 : decode cL_refusesAny 363 = .ok (.aload_n 0, 1) := by decide +kernel
theorem dL_refusesAny_364 : decode cL_refusesAny 364 = .ok (.aload_n 0, 1) := by decide +kernel
theorem dL_refusesAny_365 : decode cL_refusesAny 365 = .ok (.iconst 0, 1) := by decide +kernel
theorem dL_refusesAny_366 : decode cL_refusesAny 366 = .ok (.iconst 0, 1) := by decide +kernel
theorem dL_refusesAny_367 : decode cL_refusesAny 367 = .ok (.invokevirtual 20, 3) := by decide +kernel
theorem dL_refusesAny_370 : decode cL_refusesAny 370 = .ok (.iconst 0, 1) := by decide +kernel
theorem dL_refusesAny_371 : decode cL_refusesAny 371 = .ok (.invokevirtual 27, 3) := by decide +kernel
theorem dL_refusesAny_374 : decode cL_refusesAny 374 = .ok (.ifCond .gt 13, 3) := by decide +kernel
theorem dL_refusesAny_377 : decode cL_refusesAny 377 = .ok (.aload_n 0, 1) := by decide +kernel
theorem dL_refusesAny_378 : decode cL_refusesAny 378 = .ok (.iconst 0, 1) := by decide +kernel
theorem dL_refusesAny_379 : decode cL_refusesAny 379 = .ok (.invokevirtual 63, 3) := by decide +kernel
theorem dL_refusesAny_382 : decode cL_refusesAny 382 = .ok (.bipush (-5), 2) := by decide +kernel
theorem dL_refusesAny_384 : decode cL_refusesAny 384 = .ok (.if_icmp .ne 97, 3) := by decide +kernel
theorem dL_refusesAny_387 : decode cL_refusesAny 387 = .ok (.aload_n 0, 1) := by decide +kernel
theorem dL_refusesAny_388 : decode cL_refusesAny 388 = .ok (.iload 4, 2) := by decide +kernel
theorem dL_refusesAny_390 : decode cL_refusesAny 390 = .ok (.bipush 9, 2) := by decide +kernel
theorem dL_refusesAny_392 : decode cL_refusesAny 392 = .ok (.invokevirtual 66, 3) := by decide +kernel
theorem dL_refusesAny_395 : decode cL_refusesAny 395 = .ok (.iconst (-1), 1) := by decide +kernel
theorem dL_refusesAny_396 : decode cL_refusesAny 396 = .ok (.if_icmp .ne 85, 3) := by decide +kernel
theorem dL_refusesAny_399 : decode cL_refusesAny 399 = .ok (.aload_n 0, 1) := by decide +kernel
theorem dL_refusesAny_400 : decode cL_refusesAny 400 = .ok (.iconst 0, 1) := by decide +kernel
theorem dL_refusesAny_401 : decode cL_refusesAny 401 = .ok (.iload 4, 2) := by decide +kernel
theorem dL_refusesAny_403 : decode cL_refusesAny 403 = .ok (.invokevirtual 66, 3) := by decide +kernel
theorem dL_refusesAny_406 : decode cL_refusesAny 406 = .ok (.bipush (-2), 2) := by decide +kernel
theorem dL_refusesAny_408 : decode cL_refusesAny 408 = .ok (.if_icmp .ne 73, 3) := by decide +kernel
theorem dL_refusesAny_411 : decode cL_refusesAny 411 = .ok (.aload_n 0, 1) := by decide +kernel
theorem dL_refusesAny_412 : decode cL_refusesAny 412 = .ok (.iconst 0, 1) := by decide +kernel
theorem dL_refusesAny_413 : decode cL_refusesAny 413 = .ok (.iconst 0, 1) := by decide +kernel
theorem dL_refusesAny_414 : decode cL_refusesAny 414 = .ok (.invokevirtual 24, 3) := by decide +kernel
theorem dL_refusesAny_417 : decode cL_refusesAny 417 = .ok (.ifCond .ge 16, 3) := by decide +kernel
theorem dL_refusesAny_420 : decode cL_refusesAny 420 = .ok (.aload_n 0, 1) := by decide +kernel
theorem dL_refusesAny_421 : decode cL_refusesAny 421 = .ok (.iconst 0, 1) := by decide +kernel
theorem dL_refusesAny_422 : decode cL_refusesAny 422 = .ok (.invokevirtual 69, 3) := by decide +kernel
theorem dL_refusesAny_425 : decode cL_refusesAny 425 = .ok (.bipush (-5), 2) := by decide +kernel
theorem dL_refusesAny_427 : decode cL_refusesAny 427 = .ok (.if_icmp .ne 54, 3) := by decide +kernel
theorem dL_refusesAny_430 : decode cL_refusesAny 430 = .ok (.goto 19, 3) := by decide +kernel
theorem dL_refusesAny_433 : decode cL_refusesAny 433 = .ok (.aload_n 0, 1) := by decide +kernel
theorem dL_refusesAny_434 : decode cL_refusesAny 434 = .ok (.iconst 0, 1) := by decide +kernel
theorem dL_refusesAny_435 : decode cL_refusesAny 435 = .ok (.aload_n 0, 1) := by decide +kernel
theorem dL_refusesAny_436 : decode cL_refusesAny 436 = .ok (.iconst 0, 1) := by decide +kernel
theorem dL_refusesAny_437 : decode cL_refusesAny 437 = .ok (.iconst 0, 1) := by decide +kernel
theorem dL_refusesAny_438 : decode cL_refusesAny 438 = .ok (.invokevirtual 24, 3) := by decide +kernel
theorem dL_refusesAny_441 : decode cL_refusesAny 441 = .ok (.invokevirtual 66, 3) := by decide +kernel
theorem dL_refusesAny_444 : decode cL_refusesAny 444 = .ok (.bipush (-4), 2) := by decide +kernel
theorem dL_refusesAny_446 : decode cL_refusesAny 446 = .ok (.if_icmp .ne 35, 3) := by decide +kernel
theorem dL_refusesAny_449 : decode cL_refusesAny 449 = .ok (.aload_n 0, 1) := by decide +kernel
theorem dL_refusesAny_450 : decode cL_refusesAny 450 = .ok (.iload 4, 2) := by decide +kernel
theorem dL_refusesAny_452 : decode cL_refusesAny 452 = .ok (.invokevirtual 69, 3) := by decide +kernel
theorem dL_refusesAny_455 : decode cL_refusesAny 455 = .ok (.iconst (-1), 1) := by decide +kernel
theorem dL_refusesAny_456 : decode cL_refusesAny 456 = .ok (.if_icmp .ne 25, 3) := by decide +kernel
theorem dL_refusesAny_459 : decode cL_refusesAny 459 = .ok (.aload_n 0, 1) := by decide +kernel
theorem dL_refusesAny_460 : decode cL_refusesAny 460 = .ok (.iconst 5, 1) := by decide +kernel
theorem dL_refusesAny_461 : decode cL_refusesAny 461 = .ok (.invokevirtual 14, 3) := by decide +kernel
theorem dL_refusesAny_464 : decode cL_refusesAny 464 = .ok (.iconst 1, 1) := by decide +kernel
