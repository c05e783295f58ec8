theorem dL_isAlgebra_767 : decode cL_isAlgebra 767 = .ok (.iload 9, 2) := by decide +kernel
theorem dL_isAlgebra_769 : decode cL_isAlgebra 769 = .ok (.ireturn, 1) := by decide +kernel
theorem dL_areRows_0 : decode cL_areRows 0 = .ok (.aload_n 0, 1) := by decide +kernel
theorem dL_areRows_1 : decode cL_areRows 1 = .ok (.iload_n 2, 1) := by decide +kernel
theorem dL_areRows_2 : decode cL_areRows 2 = .ok (.iload_n 3, 1) := by decide +kernel
theorem dL_areRows_3 : decode cL_areRows 3 = .ok (.aload 4, 2) := by decide +kernel
theorem dL_areRows_5 : decode cL_areRows 5 = .ok (.invokestatic 87, 3) := by decide +kernel
theorem dL_areRows_8 : decode cL_areRows 8 = .ok (.istore 6, 2) := by decide +kernel
theorem dL_areRows_10 : decode cL_areRows 10 = .ok (.aload_n 1, 1) := by decide +kernel
theorem dL_areRows_11 : decode cL_areRows 11 = .ok (.invokestatic 8, 3) := by decide +kernel
theorem dL_areRows_14 : decode cL_areRows 14 = .ok (.iload_n 3, 1) := by decide +kernel
theorem dL_areRows_15 : decode cL_areRows 15 = .ok (.irem, 1) := by decide +kernel
theorem dL_areRows_16 : decode cL_areRows 16 = .ok (.istore 7, 2) := by decide +kernel
theorem dL_areRows_18 : decode cL_areRows 18 = .ok (.aload_n 1, 1) := by decide +kernel
theorem dL_areRows_19 : decode cL_areRows 19 = .ok (.invokestatic 8, 3) := by decide +kernel
theorem dL_areRows_22 : decode cL_areRows 22 = .ok (.iload_n 3, 1) := by decide +kernel
theorem dL_areRows_23 : decode cL_areRows 23 = .ok (.iconst 1, 1) := by decide +kernel
theorem dL_areRows_24 : decode cL_areRows 24 = .ok (.iadd, 1) := by decide +kernel
theorem dL_areRows_25 : decode cL_areRows 25 = .ok (.irem, 1) := by decide +kernel
theorem dL_areRows_26 : decode cL_areRows 26 = .ok (.istore 8, 2) := by decide +kernel
theorem dL_areRows_28 : decode cL_areRows 28 = .ok (.iload 8, 2) := by decide +kernel
theorem dL_areRows_30 : decode cL_areRows 30 = .ok (.aload_n 1, 1) := by decide +kernel
theorem dL_areRows_31 : decode cL_areRows 31 = .ok (.invokestatic 8, 3) := by decide +kernel
theorem dL_areRows_34 : decode cL_areRows 34 = .ok (.iload_n 3, 1) := by decide +kernel
theorem dL_areRows_35 : decode cL_areRows 35 = .ok (.iload 8, 2) := by decide +kernel
theorem dL_areRows_37 : decode cL_areRows 37 = .ok (.isub, 1) := by decide +kernel
theorem dL_areRows_38 : decode cL_areRows 38 = .ok (.iconst 1, 1) := by decide +kernel
theorem dL_areRows_39 : decode cL_areRows 39 = .ok (.iadd, 1) := by decide +kernel
theorem dL_areRows_40 : decode cL_areRows 40 = .ok (.irem, 1) := by decide +kernel
theorem dL_areRows_41 : decode cL_areRows 41 = .ok (.iadd, 1) := by decide +kernel
theorem dL_areRows_42 : decode cL_areRows 42 = .ok (.istore 9, 2) := by decide +kernel
theorem dL_areRows_44 : decode cL_areRows 44 = .ok (.aload_n 1, 1) := by decide +kernel
theorem dL_areRows_45 : decode cL_areRows 45 = .ok (.invokestatic 8, 3) := by decide +kernel
theorem dL_areRows_48 : decode cL_areRows 48 = .ok (.iconst 3, 1) := by decide +kernel
theorem dL_areRows_49 : decode cL_areRows 49 = .ok (.irem, 1) := by decide +kernel
theorem dL_areRows_50 : decode cL_areRows 50 = .ok (.istore 10, 2) := by decide +kernel
theorem dL_areRows_52 : decode cL_areRows 52 = .ok (.iload 10, 2) := by decide +kernel
theorem dL_areRows_54 : decode cL_areRows 54 = .ok (.iconst 2, 1) := by decide +kernel
theorem dL_areRows_55 : decode cL_areRows 55 = .ok (.if_icmp .ne 17, 3) := by decide +kernel
theorem dL_areRows_58 : decode cL_areRows 58 = .ok (.aload_n 0, 1) := by decide +kernel
theorem dL_areRows_59 : decode cL_areRows 59 = .ok (.iload_n 2, 1) := by decide +kernel
theorem dL_areRows_60 : decode cL_areRows 60 = .ok (.iload 7, 2) := by decide +kernel
theorem dL_areRows_62 : decode cL_areRows 62 = .ok (.iload 8, 2) := by decide +kernel
theorem dL_areRows_64 : decode cL_areRows 64 = .ok (.iload 9, 2) := by decide +kernel
theorem dL_areRows_66 : decode cL_areRows 66 = .ok (.invokevirtual 169, 3) := by decide +kernel
theorem dL_areRows_69 : decode cL_areRows 69 = .ok (.goto 24, 3) := by decide +kernel
theorem dL_areRows_72 : decode cL_areRows 72 = .ok (.aload_n 0, 1) := by decide +kernel
theorem dL_areRows_73 : decode cL_areRows 73 = .ok (.iload_n 2, 1) := by decide +kernel
theorem dL_areRows_74 : decode cL_areRows 74 = .ok (.iload 7, 2) := by decide +kernel
theorem dL_areRows_76 : decode cL_areRows 76 = .ok (.iload 8, 2) := by decide +kernel
theorem dL_areRows_78 : decode cL_areRows 78 = .ok (.iload 9, 2) := by decide +kernel
theorem dL_areRows_80 : decode cL_areRows 80 = .ok (.iload 10, 2) := by decide +kernel
theorem dL_areRows_82 : decode cL_areRows 82 = .ok (.ifCond .ne 7, 3) := by decide +kernel
theorem dL_areRows_85 : decode cL_areRows 85 = .ok (.iconst 1, 1) := by decide +kernel
theorem dL_areRows_86 : decode cL_areRows 86 = .ok (.goto 4, 3) := by decide +kernel
theorem dL_areRows_89 : decode cL_areRows 89 = .ok (.iconst 0, 1) := by decide +kernel
theorem dL_areRows_90 : decode cL_areRows 90 = .ok (.invokevirtual 47, 3) := by decide +kernel
theorem dL_areRows_93 : decode cL_areRows 93 = .ok (.istore 11, 2) := by decide +kernel
theorem dL_areRows_95 : decode cL_areRows 95 = .ok (.iload 8, 2) := by decide +kernel
theorem dL_areRows_97 : decode cL_areRows 97 = .ok (.istore 12, 2) := by decide +kernel
theorem dL_areRows_99 : decode cL_areRows 99 = .ok (.iload 12, 2) := by decide +kernel
theorem dL_areRows_101 : decode cL_areRows 101 = .ok (.iload 9, 2) := by decide +kernel
theorem dL_areRows_103 : decode cL_areRows 103 = .ok (.if_icmp .ge 58, 3) := by decide +kernel
theorem dL_areRows_106 : decode cL_areRows 106 = .ok (.aload 4, 2) := by decide +kernel
theorem dL_areRows_108 : decode cL_areRows 108 = .ok (.bipush 80, 2) := by decide +kernel
theorem dL_areRows_110 : decode cL_areRows 110 = .ok (.iload 7, 2) := by decide +kernel
theorem dL_areRows_112 : decode cL_areRows 112 = .ok (.imul, 1) := by decide +kernel
theorem dL_areRows_113 : decode cL_areRows 113 = .ok (.iload 12, 2) := by decide +kernel
theorem dL_areRows_115 : decode cL_areRows 115 = .ok (.iadd, 1) := by decide +kernel
theorem dL_areRows_116 : decode cL_areRows 116 = .ok (.iload 10, 2) := by decide +kernel
theorem dL_areRows_118 : decode cL_areRows 118 = .ok (.iconst 2, 1) := by decide +kernel
theorem dL_areRows_119 : decode cL_areRows 119 = .ok (.if_icmp .ne 25, 3) := by decide +kernel
theorem dL_areRows_122 : decode cL_areRows 122 = .ok (.aload 4, 2) := by decide +kernel
theorem dL_areRows_124 : decode cL_areRows 124 = .ok (.bipush 80, 2) := by decide +kernel
theorem dL_areRows_126 : decode cL_areRows 126 = .ok (.iload 7, 2) := by decide +kernel
theorem dL_areRows_128 : decode cL_areRows 128 = .ok (.imul, 1) := by decide +kernel
theorem dL_areRows_129 : decode cL_areRows 129 = .ok (.iload 12, 2) := by decide +kernel
theorem dL_areRows_131 : decode cL_areRows 131 = .ok (.iadd, 1) := by decide +kernel
theorem dL_areRows_132 : decode cL_areRows 132 = .ok (.baload, 1) := by decide +kernel
theorem dL_areRows_133 : decode cL_areRows 133 = .ok (.ifCond .ne 7, 3) := by decide +kernel
theorem dL_areRows_136 : decode cL_areRows 136 = .ok (.iconst 1, 1) := by decide +kernel
theorem dL_areRows_137 : decode cL_areRows 137 = .ok (.goto 17, 3) := by decide +kernel
theorem dL_areRows_140 : decode cL_areRows 140 = .ok (.iconst 0, 1) := by decide +kernel
theorem dL_areRows_141 : decode cL_areRows 141 = .ok (.goto 13, 3) := by decide +kernel
theorem dL_areRows_144 : decode cL_areRows 144 = .ok (.iload 10, 2) := by decide +kernel
theorem dL_areRows_146 : decode cL_areRows 146 = .ok (.ifCond .ne 7, 3) := by decide +kernel
theorem dL_areRows_149 : decode cL_areRows 149 = .ok (.iconst 1, 1) := by decide +kernel
theorem dL_areRows_150 : decode cL_areRows 150 = .ok (.goto 4, 3) := by decide +kernel
theorem dL_areRows_153 : decode cL_areRows 153 = .ok (.iconst 0, 1) := by decide +kernel
theorem dL_areRows_154 : decode cL_areRows 154 = .ok (.bastore, 1) := by decide +kernel
theorem dL_areRows_155 : decode cL_areRows 155 = .ok (.iinc 12 1, 3) := by decide +kernel
theorem dL_areRows_158 : decode cL_areRows 158 = .ok (.goto (-59), 3) := by decide +kernel
theorem dL_areRows_161 : decode cL_areRows 161 = .ok (.iconst 0, 1) := by decide +kernel
theorem dL_areRows_162 : decode cL_areRows 162 = .ok (.istore 12, 2) := by decide +kernel
theorem dL_areRows_164 : decode cL_areRows 164 = .ok (.iconst 0, 1) := by decide +kernel
theorem dL_areRows_165 : decode cL_areRows 165 = .ok (.istore 13, 2) := by decide +kernel
theorem dL_areRows_167 : decode cL_areRows 167 = .ok (.iload 13, 2) := by decide +kernel
theorem dL_areRows_169 : decode cL_areRows 169 = .ok (.iload_n 3, 1) := by decide +kernel
theorem dL_areRows_170 : decode cL_areRows 170 = .ok (.if_icmp .ge 33, 3) := by decide +kernel
theorem dL_areRows_173 : decode cL_areRows 173 = .ok (.iload 12, 2) := by decide +kernel
theorem dL_areRows_175 : decode cL_areRows 175 = .ok (.aload 4, 2) := by decide +kernel
theorem dL_areRows_177 : decode cL_areRows 177 = .ok (.bipush 80, 2) := by decide +kernel
theorem dL_areRows_179 : decode cL_areRows 179 = .ok (.iload 7, 2) := by decide +kernel
theorem dL_areRows_181 : decode cL_areRows 181 = .ok (.imul, 1) := by decide +kernel
theorem dL_areRows_182 : decode cL_areRows 182 = .ok (.iload 13, 2) := by decide +kernel
theorem dL_areRows_184 : decode cL_areRows 184 = .ok (.iadd, 1) := by decide +kernel
theorem dL_areRows_185 : decode cL_areRows 185 = .ok (.baload, 1) := by decide +kernel
theorem dL_areRows_186 : decode cL_areRows 186 = .ok (.ifCond .eq 7, 3) := by decide +kernel
theorem dL_areRows_189 : decode cL_areRows 189 = .ok (.iconst 1, 1) := by decide +kernel
theorem dL_areRows_190 : decode cL_areRows 190 = .ok (.goto 4, 3) := by decide +kernel
theorem dL_areRows_193 : decode cL_areRows 193 = .ok (.iconst 0, 1) := by decide +kernel
theorem dL_areRows_194 : decode cL_areRows 194 = .ok (.iadd, 1) := by decide +kernel
theorem dL_areRows_195 : decode cL_areRows 195 = .ok (.istore 12, 2) := by decide +kernel
theorem dL_areRows_197 : decode cL_areRows 197 = .ok (.iinc 13 1, 3) := by decide +kernel
theorem dL_areRows_200 : decode cL_areRows 200 = .ok (.goto (-33), 3) := by decide +kernel
theorem dL_areRows_203 : decode cL_areRows 203 = .ok (.iload 6, 2) := by decide +kernel
theorem dL_areRows_205 : decode cL_areRows 205 = .ok (.ifCond .lt 53, 3) := by decide +kernel
theorem dL_areRows_208 : decode cL_areRows 208 = .ok (.iload 11, 2) := by decide +kernel
theorem dL_areRows_210 : decode cL_areRows 210 = .ok (.iload 12, 2) := by decide +kernel
theorem dL_areRows_212 : decode cL_areRows 212 = .ok (.if_icmp .ne 46, 3) := by decide +kernel
theorem dL_areRows_215 : decode cL_areRows 215 = .ok (.aload_n 0, 1) := by decide +kernel
theorem dL_areRows_216 : decode cL_areRows 216 = .ok (.iload_n 2, 1) := by decide +kernel
theorem dL_areRows_217 : decode cL_areRows 217 = .ok (.iload 7, 2) := by decide +kernel
theorem dL_areRows_219 : decode cL_areRows 219 = .ok (.invokevirtual 44, 3) := by decide +kernel
theorem dL_areRows_222 : decode cL_areRows 222 = .ok (.iload 12, 2) := by decide +kernel
theorem dL_areRows_224 : decode cL_areRows 224 = .ok (.if_icmp .ne 34, 3) := by decide +kernel
theorem dL_areRows_227 : decode cL_areRows 227 = .ok (.aload_n 0, 1) := by decide +kernel
theorem dL_areRows_228 : decode cL_areRows 228 = .ok (.iload_n 2, 1) := by decide +kernel
theorem dL_areRows_229 : decode cL_areRows 229 = .ok (.iload_n 3, 1) := by decide +kernel
theorem dL_areRows_230 : decode cL_areRows 230 = .ok (.aload 5, 2) := by decide +kernel
theorem dL_areRows_232 : decode cL_areRows 232 = .ok (.invokestatic 87, 3) := by decide +kernel
theorem dL_areRows_235 : decode cL_areRows 235 = .ok (.aload_n 0, 1) := by decide +kernel
theorem dL_areRows_236 : decode cL_areRows 236 = .ok (.iload_n 2, 1) := by decide +kernel
theorem dL_areRows_237 : decode cL_areRows 237 = .ok (.invokevirtual 99, 3) := by decide +kernel
theorem dL_areRows_240 : decode cL_areRows 240 = .ok (.if_icmp .ne 18, 3) := by decide +kernel
theorem dL_areRows_243 : decode cL_areRows 243 = .ok (.aload 4, 2) := by decide +kernel
theorem dL_areRows_245 : decode cL_areRows 245 = .ok (.aload 5, 2) := by decide +kernel
theorem dL_areRows_247 : decode cL_areRows 247 = .ok (.iload_n 3, 1) := by decide +kernel
theorem dL_areRows_248 : decode cL_areRows 248 = .ok (.invokestatic 142, 3) := by decide +kernel
theorem dL_areRows_251 : decode cL_areRows 251 = .ok (.ifCond .eq 7, 3) := by decide +kernel
theorem dL_areRows_254 : decode cL_areRows 254 = .ok (.iconst 1, 1) := by decide +kernel
theorem dL_areRows_255 : decode cL_areRows 255 = .ok (.goto 4, 3) := by decide +kernel
theorem dL_areRows_258 : decode cL_areRows 258 = .ok (.iconst 0, 1) := by decide +kernel
theorem dL_areRows_259 : decode cL_areRows 259 = .ok (.istore 13, 2) := by decide +kernel
theorem dL_areRows_261 : decode cL_areRows 261 = .ok (.aload_n 1, 1) := by decide +kernel
theorem dL_areRows_262 : decode cL_areRows 262 = .ok (.invokestatic 8, 3) := by decide +kernel
theorem dL_areRows_265 : decode cL_areRows 265 = .ok (.iload_n 3, 1) := by decide +kernel
theorem dL_areRows_266 : decode cL_areRows 266 = .ok (.irem, 1) := by decide +kernel
theorem dL_areRows_267 : decode cL_areRows 267 = .ok (.istore 14, 2) := by decide +kernel
theorem dL_areRows_269 : decode cL_areRows 269 = .ok (.iconst 0, 1) := by decide +kernel
theorem dL_areRows_270 : decode cL_areRows 270 = .ok (.istore 15, 2) := by decide +kernel
theorem dL_areRows_272 : decode cL_areRows 272 = .ok (.iload 15, 2) := by decide +kernel
theorem dL_areRows_274 : decode cL_areRows 274 = .ok (.iconst 4, 1) := by decide +kernel
theorem dL_areRows_275 : decode cL_areRows 275 = .ok (.if_icmp .ge 107, 3) := by decide +kernel
theorem dL_areRows_278 : decode cL_areRows 278 = .ok (.iload 13, 2) := by decide +kernel
theorem dL_areRows_280 : decode cL_areRows 280 = .ok (.ifCond .eq 102, 3) := by decide +kernel
theorem dL_areRows_283 : decode cL_areRows 283 = .ok (.iload 14, 2) := by decide +kernel
theorem dL_areRows_285 : decode cL_areRows 285 = .ok (.istore 16, 2) := by decide +kernel
theorem dL_areRows_287 : decode cL_areRows 287 = .ok (.iload 16, 2) := by decide +kernel
theorem dL_areRows_289 : decode cL_areRows 289 = .ok (.ifCond .lt 54, 3) := by decide +kernel
theorem dL_areRows_292 : decode cL_areRows 292 = .ok (.iload 16, 2) := by decide +kernel
theorem dL_areRows_294 : decode cL_areRows 294 = .ok (.iload_n 3, 1) := by decide +kernel
theorem dL_areRows_295 : decode cL_areRows 295 = .ok (.if_icmp .ge 48, 3) := by decide +kernel
theorem dL_areRows_298 : decode cL_areRows 298 = .ok (.aload 4, 2) := by decide +kernel
theorem dL_areRows_300 : decode cL_areRows 300 = .ok (.bipush 80, 2) := by decide +kernel
theorem dL_areRows_302 : decode cL_areRows 302 = .ok (.iload 7, 2) := by decide +kernel
theorem dL_areRows_304 : decode cL_areRows 304 = .ok (.imul, 1) := by decide +kernel
theorem dL_areRows_305 : decode cL_areRows 305 = .ok (.iload 16, 2) := by decide +kernel
theorem dL_areRows_307 : decode cL_areRows 307 = .ok (.iadd, 1) := by decide +kernel
theorem dL_areRows_308 : decode cL_areRows 308 = .ok (.baload, 1) := by decide +kernel
theorem dL_areRows_309 : decode cL_areRows 309 = .ok (.iload 15, 2) := by decide +kernel
theorem dL_areRows_311 : decode cL_areRows 311 = .ok (.iconst 2, 1) := by decide +kernel
theorem dL_areRows_312 : decode cL_areRows 312 = .ok (.irem, 1) := by decide +kernel
theorem dL_areRows_313 : decode cL_areRows 313 = .ok (.ifCond .ne 7, 3) := by decide +kernel
theorem dL_areRows_316 : decode cL_areRows 316 = .ok (.iconst 1, 1) := by decide +kernel
theorem dL_areRows_317 : decode cL_areRows 317 = .ok (.goto 4, 3) := by decide +kernel
theorem dL_areRows_320 : decode cL_areRows 320 = .ok (.iconst 0, 1) := by decide +kernel
theorem dL_areRows_321 : decode cL_areRows 321 = .ok (.if_icmp .eq 22, 3) := by decide +kernel
theorem dL_areRows_324 : decode cL_areRows 324 = .ok (.iload 16, 2) := by decide +kernel
theorem dL_areRows_326 : decode cL_areRows 326 = .ok (.iload 15, 2) := by decide +kernel
theorem dL_areRows_328 : decode cL_areRows 328 = .ok (.iconst 2, 1) := by decide +kernel
theorem dL_areRows_329 : decode cL_areRows 329 = .ok (.if_icmp .ge 7, 3) := by decide +kernel
theorem dL_areRows_332 : decode cL_areRows 332 = .ok (.iconst 1, 1) := by decide +kernel
theorem dL_areRows_333 : decode cL_areRows 333 = .ok (.goto 4, 3) := by decide +kernel
theorem dL_areRows_336 : decode cL_areRows 336 = .ok (.iconst (-1), 1) := by decide +kernel
theorem dL_areRows_337 : decode cL_areRows 337 = .ok (.iadd, 1) := by decide +kernel
theorem dL_areRows_338 : decode cL_areRows 338 = .ok (.istore 16, 2) := by decide +kernel
theorem dL_areRows_340 : decode cL_areRows 340 = .ok (.goto (-53), 3) := by decide +kernel
theorem dL_areRows_343 : decode cL_areRows 343 = .ok (.aload_n 0, 1) := by decide +kernel
theorem dL_areRows_344 : decode cL_areRows 344 = .ok (.iload_n 2, 1) := by decide +kernel
theorem dL_areRows_345 : decode cL_areRows 345 = .ok (.iload 7, 2) := by decide +kernel
theorem dL_areRows_347 : decode cL_areRows 347 = .ok (.iload 14, 2) := by decide +kernel
theorem dL_areRows_349 : decode cL_areRows 349 = .ok (.iload 15, 2) := by decide +kernel
theorem dL_areRows_351 : decode cL_areRows 351 = .ok (.invokevirtual 51, 3) := by decide +kernel
theorem dL_areRows_354 : decode cL_areRows 354 = .ok (.iload 16, 2) := by decide +kernel
theorem dL_areRows_356 : decode cL_areRows 356 = .ok (.iload_n 3, 1) := by decide +kernel
theorem dL_areRows_357 : decode cL_areRows 357 = .ok (.if_icmp .ge 8, 3) := by decide +kernel
theorem dL_areRows_360 : decode cL_areRows 360 = .ok (.iload 16, 2) := by decide +kernel
theorem dL_areRows_362 : decode cL_areRows 362 = .ok (.goto 4, 3) := by decide +kernel
theorem dL_areRows_365 : decode cL_areRows 365 = .ok (.iconst (-1), 1) := by decide +kernel
theorem dL_areRows_366 : decode cL_areRows 366 = .ok (.if_icmp .ne 7, 3) := by decide +kernel
theorem dL_areRows_369 : decode cL_areRows 369 = .ok (.iconst 1, 1) := by decide +kernel
theorem dL_areRows_370 : decode cL_areRows 370 = .ok (.goto 4, 3) := by decide +kernel
theorem dL_areRows_373 : decode cL_areRows 373 = .ok (.iconst 0, 1) := by decide +kernel
theorem dL_areRows_374 : decode cL_areRows 374 = .ok (.istore 13, 2) := by decide +kernel
theorem dL_areRows_376 : decode cL_areRows 376 = .ok (.iinc 15 1, 3) := by decide +kernel
theorem dL_areRows_379 : decode cL_areRows 379 = .ok (.goto (-107), 3) := by decide +kernel
theorem dL_areRows_382 : decode cL_areRows 382 = .ok (.aload_n 1, 1) := by decide +kernel
theorem dL_areRows_383 : decode cL_areRows 383 = .ok (.invokestatic 8, 3) := by decide +kernel
theorem dL_areRows_386 : decode cL_areRows 386 = .ok (.iload_n 3, 1) := by decide +kernel
theorem dL_areRows_387 : decode cL_areRows 387 = .ok (.irem, 1) := by decide +kernel
theorem dL_areRows_388 : decode cL_areRows 388 = .ok (.istore 15, 2) := by decide +kernel
theorem dL_areRows_390 : decode cL_areRows 390 = .ok (.iconst 0, 1) := by decide +kernel
theorem dL_areRows_391 : decode cL_areRows 391 = .ok (.istore 16, 2) := by decide +kernel
theorem dL_areRows_393 : decode cL_areRows 393 = .ok (.iconst 0, 1) := by decide +kernel
theorem dL_areRows_394 : decode cL_areRows 394 = .ok (.istore 17, 2) := by decide +kernel
theorem dL_areRows_396 : decode cL_areRows 396 = .ok (.iload 17, 2) := by decide +kernel
theorem dL_areRows_398 : decode cL_areRows 398 = .ok (.iload_n 3, 1) := by decide +kernel
theorem dL_areRows_399 : decode cL_areRows 399 = .ok (.if_icmp .ge 47, 3) := by decide +kernel
theorem dL_areRows_402 : decode cL_areRows 402 = .ok (.iload 16, 2) := by decide +kernel
theorem dL_areRows_404 : decode cL_areRows 404 = .ok (.aload 4, 2) := by decide +kernel
theorem dL_areRows_406 : decode cL_areRows 406 = .ok (.bipush 80, 2) := by decide +kernel
theorem dL_areRows_408 : decode cL_areRows 408 = .ok (.iload 7, 2) := by decide +kernel
theorem dL_areRows_410 : decode cL_areRows 410 = .ok (.imul, 1) := by decide +kernel
theorem dL_areRows_411 : decode cL_areRows 411 = .ok (.iload 17, 2) := by decide +kernel
theorem dL_areRows_413 : decode cL_areRows 413 = .ok (.iadd, 1) := by decide +kernel
theorem dL_areRows_414 : decode cL_areRows 414 = .ok (.baload, 1) := by decide +kernel
theorem dL_areRows_415 : decode cL_areRows 415 = .ok (.ifCond .eq 21, 3) := by decide +kernel
theorem dL_areRows_418 : decode cL_areRows 418 = .ok (.aload 4, 2) := by decide +kernel
theorem dL_areRows_420 : decode cL_areRows 420 = .ok (.bipush 80, 2) := by decide +kernel
theorem dL_areRows_422 : decode cL_areRows 422 = .ok (.iload 15, 2) := by decide +kernel
theorem dL_areRows_424 : decode cL_areRows 424 = .ok (.imul, 1) := by decide +kernel
theorem dL_areRows_425 : decode cL_areRows 425 = .ok (.iload 17, 2) := by decide +kernel
theorem dL_areRows_427 : decode cL_areRows 427 = .ok (.iadd, 1) := by decide +kernel
theorem dL_areRows_428 : decode cL_areRows 428 = .ok (.baload, 1) := by decide +kernel
theorem dL_areRows_429 : decode cL_areRows 429 = .ok (.ifCond .eq 7, 3) := by decide +kernel
theorem dL_areRows_432 : decode cL_areRows 432 = .ok (.iconst 1, 1) := by decide +kernel
theorem dL_areRows_433 : decode cL_areRows 433 = .ok (.goto 4, 3) := by decide +kernel
theorem dL_areRows_436 : decode cL_areRows 436 = .ok (.iconst 0, 1) := by decide +kernel
theorem dL_areRows_437 : decode cL_areRows 437 = .ok (.ior, 1) := by decide +kernel
theorem dL_areRows_438 : decode cL_areRows 438 = .ok (.istore 16, 2) := by decide +kernel
theorem dL_areRows_440 : decode cL_areRows 440 = .ok (.iinc 17 1, 3) := by decide +kernel
theorem dL_areRows_443 : decode cL_areRows 443 = .ok (.goto (-47), 3) := by decide +kernel
theorem dL_areRows_446 : decode cL_areRows 446 = .ok (.iload 13, 2) := by decide +kernel
theorem dL_areRows_448 : decode cL_areRows 448 = .ok (.ifCond .eq 81, 3) := by decide +kernel
theorem dL_areRows_451 : decode cL_areRows 451 = .ok (.aload_n 0, 1) := by decide +kernel
theorem dL_areRows_452 : decode cL_areRows 452 = .ok (.iload_n 2, 1) := by decide +kernel
theorem dL_areRows_453 : decode cL_areRows 453 = .ok (.iload 7, 2) := by decide +kernel
theorem dL_areRows_455 : decode cL_areRows 455 = .ok (.iload_n 2, 1) := by decide +kernel
theorem dL_areRows_456 : decode cL_areRows 456 = .ok (.iload 15, 2) := by decide +kernel
theorem dL_areRows_458 : decode cL_areRows 458 = .ok (.invokevirtual 172, 3) := by decide +kernel
theorem dL_areRows_461 : decode cL_areRows 461 = .ok (.iload 16, 2) := by decide +kernel
theorem dL_areRows_463 : decode cL_areRows 463 = .ok (.if_icmp .ne 66, 3) := by decide +kernel
theorem dL_areRows_466 : decode cL_areRows 466 = .ok (.aload_n 0, 1) := by decide +kernel
theorem dL_areRows_467 : decode cL_areRows 467 = .ok (.iload_n 2, 1) := by decide +kernel
theorem dL_areRows_468 : decode cL_areRows 468 = .ok (.iload 7, 2) := by decide +kernel
theorem dL_areRows_470 : decode cL_areRows 470 = .ok (.iload 15, 2) := by decide +kernel
theorem dL_areRows_472 : decode cL_areRows 472 = .ok (.iconst 1, 1) := by decide +kernel
theorem dL_areRows_473 : decode cL_areRows 473 = .ok (.invokevirtual 176, 3) := by decide +kernel
theorem dL_areRows_476 : decode cL_areRows 476 = .ok (.aload 4, 2) := by decide +kernel
theorem dL_areRows_478 : decode cL_areRows 478 = .ok (.bipush 80, 2) := by decide +kernel
theorem dL_areRows_480 : decode cL_areRows 480 = .ok (.iload 7, 2) := by decide +kernel
theorem dL_areRows_482 : decode cL_areRows 482 = .ok (.imul, 1) := by decide +kernel
theorem dL_areRows_483 : decode cL_areRows 483 = .ok (.iload 15, 2) := by decide +kernel
theorem dL_areRows_485 : decode cL_areRows 485 = .ok (.iadd, 1) := by decide +kernel
theorem dL_areRows_486 : decode cL_areRows 486 = .ok (.baload, 1) := by decide +kernel
theorem dL_areRows_487 : decode cL_areRows 487 = .ok (.if_icmp .ne 42, 3) := by decide +kernel
theorem dL_areRows_490 : decode cL_areRows 490 = .ok (.aload_n 0, 1) := by decide +kernel
theorem dL_areRows_491 : decode cL_areRows 491 = .ok (.iload_n 2, 1) := by decide +kernel
theorem dL_areRows_492 : decode cL_areRows 492 = .ok (.iload 7, 2) := by decide +kernel
theorem dL_areRows_494 : decode cL_areRows 494 = .ok (.iload 15, 2) := by decide +kernel
theorem dL_areRows_496 : decode cL_areRows 496 = .ok (.invokevirtual 180, 3) := by decide +kernel
theorem dL_areRows_499 : decode cL_areRows 499 = .ok (.ifCond .eq 30, 3) := by decide +kernel
theorem dL_areRows_502 : decode cL_areRows 502 = .ok (.aload_n 0, 1) := by decide +kernel
theorem dL_areRows_503 : decode cL_areRows 503 = .ok (.iload_n 2, 1) := by decide +kernel
theorem dL_areRows_504 : decode cL_areRows 504 = .ok (.iload 7, 2) := by decide +kernel
theorem dL_areRows_506 : decode cL_areRows 506 = .ok (.iload 15, 2) := by decide +kernel
theorem dL_areRows_508 : decode cL_areRows 508 = .ok (.aload 4, 2) := by decide +kernel
theorem dL_areRows_510 : decode cL_areRows 510 = .ok (.bipush 80, 2) := by decide +kernel
theorem dL_areRows_512 : decode cL_areRows 512 = .ok (.iload 7, 2) := by decide +kernel
theorem dL_areRows_514 : decode cL_areRows 514 = .ok (.imul, 1) := by decide +kernel
theorem dL_areRows_515 : decode cL_areRows 515 = .ok (.iload 15, 2) := by decide +kernel
theorem dL_areRows_517 : decode cL_areRows 517 = .ok (.iadd, 1) := by decide +kernel
theorem dL_areRows_518 : decode cL_areRows 518 = .ok (.baload, 1) := by decide +kernel
theorem dL_areRows_519 : decode cL_areRows 519 = .ok (.invokevirtual 176, 3) := by decide +kernel
theorem dL_areRows_522 : decode cL_areRows 522 = .ok (.ifCond .eq 7, 3) := by decide +kernel
theorem dL_areRows_525 : decode cL_areRows 525 = .ok (.iconst 1, 1) := by decide +kernel
theorem dL_areRows_526 : decode cL_areRows 526 = .ok (.goto 4, 3) := by decide +kernel
theorem dL_areRows_529 : decode cL_areRows 529 = .ok (.iconst 0, 1) := by decide +kernel
theorem dL_areRows_530 : decode cL_areRows 530 = .ok (.ireturn, 1) := by decide +kernel
theorem dL_spreads_0 : decode cL_spreads 0 = .ok (.aload_n 0, 1) := by decide +kernel
theorem dL_spreads_1 : decode cL_spreads 1 = .ok (.iload_n 2, 1) := by decide +kernel
theorem dL_spreads_2 : decode cL_spreads 2 = .ok (.iload_n 3, 1) := by decide +kernel
theorem dL_spreads_3 : decode cL_spreads 3 = .ok (.aload 4, 2) := by decide +kernel
theorem dL_spreads_5 : decode cL_spreads 5 = .ok (.invokestatic 87, 3) := by decide +kernel
theorem dL_spreads_8 : decode cL_spreads 8 = .ok (.istore 6, 2) := by decide +kernel
theorem dL_spreads_10 : decode cL_spreads 10 = .ok (.aload 4, 2) := by decide +kernel
theorem dL_spreads_12 : decode cL_spreads 12 = .ok (.iload_n 3, 1) := by decide +kernel
theorem dL_spreads_13 : decode cL_spreads 13 = .ok (.aload 5, 2) := by decide +kernel
theorem dL_spreads_15 : decode cL_spreads 15 = .ok (.invokestatic 91, 3) := by decide +kernel
theorem dL_spreads_18 : decode cL_spreads 18 = .ok (.aload_n 1, 1) := by decide +kernel
theorem dL_spreads_19 : decode cL_spreads 19 = .ok (.invokestatic 8, 3) := by decide +kernel
theorem dL_spreads_22 : decode cL_spreads 22 = .ok (.iload_n 3, 1) := by decide +kernel
theorem dL_spreads_23 : decode cL_spreads 23 = .ok (.irem, 1) := by decide +kernel
theorem dL_spreads_24 : decode cL_spreads 24 = .ok (.istore 7, 2) := by decide +kernel
theorem dL_spreads_26 : decode cL_spreads 26 = .ok (.iload 6, 2) := by decide +kernel
theorem dL_spreads_28 : decode cL_spreads 28 = .ok (.ifCond .lt 78, 3) := by decide +kernel
theorem dL_spreads_31 : decode cL_spreads 31 = .ok (.aload_n 0, 1) := by decide +kernel
theorem dL_spreads_32 : decode cL_spreads 32 = .ok (.iconst 0, 1) := by decide +kernel
theorem dL_spreads_33 : decode cL_spreads 33 = .ok (.iload_n 3, 1) := by decide +kernel
theorem dL_spreads_34 : decode cL_spreads 34 = .ok (.iconst 0, 1) := by decide +kernel
theorem dL_spreads_35 : decode cL_spreads 35 = .ok (.invokevirtual 37, 3) := by decide +kernel
theorem dL_spreads_38 : decode cL_spreads 38 = .ok (.ifCond .ne 68, 3) := by decide +kernel
theorem dL_spreads_41 : decode cL_spreads 41 = .ok (.aload_n 0, 1) := by decide +kernel
theorem dL_spreads_42 : decode cL_spreads 42 = .ok (.invokevirtual 184, 3) := by decide +kernel
theorem dL_spreads_45 : decode cL_spreads 45 = .ok (.ifCond .ne 61, 3) := by decide +kernel
theorem dL_spreads_48 : decode cL_spreads 48 = .ok (.aload_n 0, 1) := by decide +kernel
theorem dL_spreads_49 : decode cL_spreads 49 = .ok (.bipush 7, 2) := by decide +kernel
theorem dL_spreads_51 : decode cL_spreads 51 = .ok (.iconst 0, 1) := by decide +kernel
theorem dL_spreads_52 : decode cL_spreads 52 = .ok (.iconst 0, 1) := by decide +kernel
theorem dL_spreads_53 : decode cL_spreads 53 = .ok (.iconst 0, 1) := by decide +kernel
theorem dL_spreads_54 : decode cL_spreads 54 = .ok (.invokestatic 72, 3) := by decide +kernel
theorem dL_spreads_57 : decode cL_spreads 57 = .ok (.bipush (-4), 2) := by decide +kernel
theorem dL_spreads_59 : decode cL_spreads 59 = .ok (.if_icmp .ne 47, 3) := by decide +kernel
theorem dL_spreads_62 : decode cL_spreads 62 = .ok (.aload_n 0, 1) := by decide +kernel
theorem dL_spreads_63 : decode cL_spreads 63 = .ok (.iload 7, 2) := by decide +kernel
theorem dL_spreads_65 : decode cL_spreads 65 = .ok (.iload 7, 2) := by decide +kernel
theorem dL_spreads_67 : decode cL_spreads 67 = .ok (.iconst 1, 1) := by decide +kernel
theorem dL_spreads_68 : decode cL_spreads 68 = .ok (.iadd, 1) := by decide +kernel
theorem dL_spreads_69 : decode cL_spreads 69 = .ok (.iconst 1, 1) := by decide +kernel
theorem dL_spreads_70 : decode cL_spreads 70 = .ok (.invokevirtual 37, 3) := by decide +kernel
theorem dL_spreads_73 : decode cL_spreads 73 = .ok (.iconst 1, 1) := by decide +kernel
theorem dL_spreads_74 : decode cL_spreads 74 = .ok (.if_icmp .ne 32, 3) := by decide +kernel
theorem dL_spreads_77 : decode cL_spreads 77 = .ok (.aload_n 0, 1) := by decide +kernel
theorem dL_spreads_78 : decode cL_spreads 78 = .ok (.invokevirtual 184, 3) := by decide +kernel
theorem dL_spreads_81 : decode cL_spreads 81 = .ok (.iload 7, 2) := by decide +kernel
theorem dL_spreads_83 : decode cL_spreads 83 = .ok (.iconst 1, 1) := by decide +kernel
theorem dL_spreads_84 : decode cL_spreads 84 = .ok (.iadd, 1) := by decide +kernel
theorem dL_spreads_85 : decode cL_spreads 85 = .ok (.if_icmp .ne 21, 3) := by decide +kernel
theorem dL_spreads_88 : decode cL_spreads 88 = .ok (.aload_n 0, 1) := by decide +kernel
theorem dL_spreads_89 : decode cL_spreads 89 = .ok (.bipush 7, 2) := by decide +kernel
theorem dL_spreads_91 : decode cL_spreads 91 = .ok (.iconst 0, 1) := by decide +kernel
theorem dL_spreads_92 : decode cL_spreads 92 = .ok (.iconst 0, 1) := by decide +kernel
theorem dL_spreads_93 : decode cL_spreads 93 = .ok (.iconst 0, 1) := by decide +kernel
theorem dL_spreads_94 : decode cL_spreads 94 = .ok (.invokestatic 72, 3) := by decide +kernel
theorem dL_spreads_97 : decode cL_spreads 97 = .ok (.iload 7, 2) := by decide +kernel
theorem dL_spreads_99 : decode cL_spreads 99 = .ok (.if_icmp .ne 7, 3) := by decide +kernel
theorem dL_spreads_102 : decode cL_spreads 102 = .ok (.iconst 1, 1) := by decide +kernel
theorem dL_spreads_103 : decode cL_spreads 103 = .ok (.goto 4, 3) := by decide +kernel
theorem dL_spreads_106 : decode cL_spreads 106 = .ok (.iconst 0, 1) := by decide +kernel
theorem dL_spreads_107 : decode cL_spreads 107 = .ok (.istore 8, 2) := by decide +kernel
theorem dL_spreads_109 : decode cL_spreads 109 = .ok (.aload_n 0, 1) := by decide +kernel
theorem dL_spreads_110 : decode cL_spreads 110 = .ok (.iload_n 2, 1) := by decide +kernel
theorem dL_spreads_111 : decode cL_spreads 111 = .ok (.iload 7, 2) := by decide +kernel
theorem dL_spreads_113 : decode cL_spreads 113 = .ok (.invokevirtual 44, 3) := by decide +kernel
theorem dL_spreads_116 : decode cL_spreads 116 = .ok (.istore 9, 2) := by decide +kernel
theorem dL_spreads_118 : decode cL_spreads 118 = .ok (.iload 8, 2) := by decide +kernel
theorem dL_spreads_120 : decode cL_spreads 120 = .ok (.ifCond .eq 18, 3) := by decide +kernel
theorem dL_spreads_123 : decode cL_spreads 123 = .ok (.aload_n 0, 1) := by decide +kernel
theorem dL_spreads_124 : decode cL_spreads 124 = .ok (.iload_n 2, 1) := by decide +kernel
theorem dL_spreads_125 : decode cL_spreads 125 = .ok (.iconst 0, 1) := by decide +kernel
theorem dL_spreads_126 : decode cL_spreads 126 = .ok (.invokevirtual 187, 3) := by decide +kernel
theorem dL_spreads_129 : decode cL_spreads 129 = .ok (.iload 9, 2) := by decide +kernel
theorem dL_spreads_131 : decode cL_spreads 131 = .ok (.if_icmp .ne 7, 3) := by decide +kernel
theorem dL_spreads_134 : decode cL_spreads 134 = .ok (.iconst 1, 1) := by decide +kernel
theorem dL_spreads_135 : decode cL_spreads 135 = .ok (.goto 4, 3) := by decide +kernel
theorem dL_spreads_138 : decode cL_spreads 138 = .ok (.iconst 0, 1) := by decide +kernel
theorem dL_spreads_139 : decode cL_spreads 139 = .ok (.istore 8, 2) := by decide +kernel
theorem dL_spreads_141 : decode cL_spreads 141 = .ok (.iconst 0, 1) := by decide +kernel
theorem dL_spreads_142 : decode cL_spreads 142 = .ok (.istore 10, 2) := by decide +kernel
theorem dL_spreads_144 : decode cL_spreads 144 = .ok (.iconst 0, 1) := by decide +kernel
theorem dL_spreads_145 : decode cL_spreads 145 = .ok (.istore 11, 2) := by decide +kernel
theorem dL_spreads_147 : decode cL_spreads 147 = .ok (.iload 10, 2) := by decide +kernel
theorem dL_spreads_149 : decode cL_spreads 149 = .ok (.iload_n 3, 1) := by decide +kernel
theorem dL_spreads_150 : decode cL_spreads 150 = .ok (.if_icmp .ge 56, 3) := by decide +kernel
theorem dL_spreads_153 : decode cL_spreads 153 = .ok (.iload 8, 2) := by decide +kernel
theorem dL_spreads_155 : decode cL_spreads 155 = .ok (.ifCond .eq 51, 3) := by decide +kernel
theorem dL_spreads_158 : decode cL_spreads 158 = .ok (.aload 4, 2) := by decide +kernel
theorem dL_spreads_160 : decode cL_spreads 160 = .ok (.bipush 80, 2) := by decide +kernel
theorem dL_spreads_162 : decode cL_spreads 162 = .ok (.iload 7, 2) := by decide +kernel
theorem dL_spreads_164 : decode cL_spreads 164 = .ok (.imul, 1) := by decide +kernel
theorem dL_spreads_165 : decode cL_spreads 165 = .ok (.iload 10, 2) := by decide +kernel
theorem dL_spreads_167 : decode cL_spreads 167 = .ok (.iadd, 1) := by decide +kernel
theorem dL_spreads_168 : decode cL_spreads 168 = .ok (.baload, 1) := by decide +kernel
theorem dL_spreads_169 : decode cL_spreads 169 = .ok (.ifCond .ne 6, 3) := by decide +kernel
theorem dL_spreads_172 : decode cL_spreads 172 = .ok (.goto 28, 3) := by decide +kernel
theorem dL_spreads_175 : decode cL_spreads 175 = .ok (.aload_n 0, 1) := by decide +kernel
theorem dL_spreads_176 : decode cL_spreads 176 = .ok (.bipush 7, 2) := by decide +kernel
theorem dL_spreads_178 : decode cL_spreads 178 = .ok (.iload 11, 2) := by decide +kernel
theorem dL_spreads_180 : decode cL_spreads 180 = .ok (.iconst 0, 1) := by decide +kernel
theorem dL_spreads_181 : decode cL_spreads 181 = .ok (.iconst 0, 1) := by decide +kernel
theorem dL_spreads_182 : decode cL_spreads 182 = .ok (.invokestatic 72, 3) := by decide +kernel
theorem dL_spreads_185 : decode cL_spreads 185 = .ok (.iload 10, 2) := by decide +kernel
theorem dL_spreads_187 : decode cL_spreads 187 = .ok (.if_icmp .ne 7, 3) := by decide +kernel
theorem dL_spreads_190 : decode cL_spreads 190 = .ok (.iconst 1, 1) := by decide +kernel
theorem dL_spreads_191 : decode cL_spreads 191 = .ok (.goto 4, 3) := by decide +kernel
theorem dL_spreads_194 : decode cL_spreads 194 = .ok (.iconst 0, 1) := by decide +kernel
theorem dL_spreads_195 : decode cL_spreads 195 = .ok (.istore 8, 2) := by decide +kernel
theorem dL_spreads_197 : decode cL_spreads 197 = .ok (.iinc 11 1, 3) := by decide +kernel
theorem dL_spreads_200 : decode cL_spreads 200 = .ok (.iinc 10 1, 3) := by decide +kernel
theorem dL_spreads_203 : decode cL_spreads 203 = .ok (.goto (-56), 3) := by decide +kernel
theorem dL_spreads_206 : decode cL_spreads 206 = .ok (.iload 9, 2) := by decide +kernel
theorem dL_spreads_208 : decode cL_spreads 208 = .ok (.istore 10, 2) := by decide +kernel
theorem dL_spreads_210 : decode cL_spreads 210 = .ok (.aload_n 0, 1) := by decide +kernel
theorem dL_spreads_211 : decode cL_spreads 211 = .ok (.iload_n 2, 1) := by decide +kernel
theorem dL_spreads_212 : decode cL_spreads 212 = .ok (.iconst 1, 1) := by decide +kernel
theorem dL_spreads_213 : decode cL_spreads 213 = .ok (.invokevirtual 187, 3) := by decide +kernel
theorem dL_spreads_216 : decode cL_spreads 216 = .ok (.istore 11, 2) := by decide +kernel
theorem dL_spreads_218 : decode cL_spreads 218 = .ok (.iload 8, 2) := by decide +kernel
theorem dL_spreads_220 : decode cL_spreads 220 = .ok (.ifCond .eq 25, 3) := by decide +kernel
theorem dL_spreads_223 : decode cL_spreads 223 = .ok (.iload 11, 2) := by decide +kernel
theorem dL_spreads_225 : decode cL_spreads 225 = .ok (.iload 10, 2) := by decide +kernel
theorem dL_spreads_227 : decode cL_spreads 227 = .ok (.if_icmp .le 18, 3) := by decide +kernel
theorem dL_spreads_230 : decode cL_spreads 230 = .ok (.iload 11, 2) := by decide +kernel
theorem dL_spreads_232 : decode cL_spreads 232 = .ok (.istore 10, 2) := by decide +kernel
theorem dL_spreads_234 : decode cL_spreads 234 = .ok (.aload_n 0, 1) := by decide +kernel
theorem dL_spreads_235 : decode cL_spreads 235 = .ok (.iload_n 2, 1) := by decide +kernel
theorem dL_spreads_236 : decode cL_spreads 236 = .ok (.iconst 1, 1) := by decide +kernel
theorem dL_spreads_237 : decode cL_spreads 237 = .ok (.invokevirtual 187, 3) := by decide +kernel
theorem dL_spreads_240 : decode cL_spreads 240 = .ok (.istore 11, 2) := by decide +kernel
theorem dL_spreads_242 : decode cL_spreads 242 = .ok (.goto (-24), 3) := by decide +kernel
theorem dL_spreads_245 : decode cL_spreads 245 = .ok (.iconst 0, 1) := by decide +kernel
theorem dL_spreads_246 : decode cL_spreads 246 = .ok (.istore 12, 2) := by decide +kernel
theorem dL_spreads_248 : decode cL_spreads 248 = .ok (.iconst 0, 1) := by decide +kernel
theorem dL_spreads_249 : decode cL_spreads 249 = .ok (.istore 13, 2) := by decide +kernel
theorem dL_spreads_251 : decode cL_spreads 251 = .ok (.iload 13, 2) := by decide +kernel
theorem dL_spreads_253 : decode cL_spreads 253 = .ok (.iload_n 3, 1) := by decide +kernel
theorem dL_spreads_254 : decode cL_spreads 254 = .ok (.if_icmp .ge 33, 3) := by decide +kernel
theorem dL_spreads_257 : decode cL_spreads 257 = .ok (.iload 12, 2) := by decide +kernel
theorem dL_spreads_259 : decode cL_spreads 259 = .ok (.aload 5, 2) := by decide +kernel
theorem dL_spreads_261 : decode cL_spreads 261 = .ok (.bipush 80, 2) := by decide +kernel
theorem dL_spreads_263 : decode cL_spreads 263 = .ok (.iload 7, 2) := by decide +kernel
theorem dL_spreads_265 : decode cL_spreads 265 = .ok (.imul, 1) := by decide +kernel
theorem dL_spreads_266 : decode cL_spreads 266 = .ok (.iload 13, 2) := by decide +kernel
theorem dL_spreads_268 : decode cL_spreads 268 = .ok (.iadd, 1) := by decide +kernel
theorem dL_spreads_269 : decode cL_spreads 269 = .ok (.baload, 1) := by decide +kernel
theorem dL_spreads_270 : decode cL_spreads 270 = .ok (.ifCond .eq 7, 3) := by decide +kernel
theorem dL_spreads_273 : decode cL_spreads 273 = .ok (.iconst 1, 1) := by decide +kernel
theorem dL_spreads_274 : decode cL_spreads 274 = .ok (.goto 4, 3) := by decide +kernel
theorem dL_spreads_277 : decode cL_spreads 277 = .ok (.iconst 0, 1) := by decide +kernel
theorem dL_spreads_278 : decode cL_spreads 278 = .ok (.iadd, 1) := by decide +kernel
theorem dL_spreads_279 : decode cL_spreads 279 = .ok (.istore 12, 2) := by decide +kernel
theorem dL_spreads_281 : decode cL_spreads 281 = .ok (.iinc 13 1, 3) := by decide +kernel
theorem dL_spreads_284 : decode cL_spreads 284 = .ok (.goto (-33), 3) := by decide +kernel
theorem dL_spreads_287 : decode cL_spreads 287 = .ok (.iload 8, 2) := by decide +kernel
theorem dL_spreads_289 : decode cL_spreads 289 = .ok (.ifCond .eq 39, 3) := by decide +kernel
theorem dL_spreads_292 : decode cL_spreads 292 = .ok (.iload 11, 2) := by decide +kernel
theorem dL_spreads_294 : decode cL_spreads 294 = .ok (.iload 12, 2) := by decide +kernel
theorem dL_spreads_296 : decode cL_spreads 296 = .ok (.if_icmp .ne 32, 3) := by decide +kernel
theorem dL_spreads_299 : decode cL_spreads 299 = .ok (.aload_n 0, 1) := by decide +kernel
theorem dL_spreads_300 : decode cL_spreads 300 = .ok (.iconst 0, 1) := by decide +kernel
theorem dL_spreads_301 : decode cL_spreads 301 = .ok (.iconst 0, 1) := by decide +kernel
theorem dL_spreads_302 : decode cL_spreads 302 = .ok (.iconst 1, 1) := by decide +kernel
theorem dL_spreads_303 : decode cL_spreads 303 = .ok (.invokevirtual 37, 3) := by decide +kernel
theorem dL_spreads_306 : decode cL_spreads 306 = .ok (.iload 12, 2) := by decide +kernel
theorem dL_spreads_308 : decode cL_spreads 308 = .ok (.if_icmp .ne 20, 3) := by decide +kernel
theorem dL_spreads_311 : decode cL_spreads 311 = .ok (.aload_n 0, 1) := by decide +kernel
theorem dL_spreads_312 : decode cL_spreads 312 = .ok (.bipush 6, 2) := by decide +kernel
theorem dL_spreads_314 : decode cL_spreads 314 = .ok (.iconst 1, 1) := by decide +kernel
theorem dL_spreads_315 : decode cL_spreads 315 = .ok (.iconst 0, 1) := by decide +kernel
theorem dL_spreads_316 : decode cL_spreads 316 = .ok (.iconst 1, 1) := by decide +kernel
theorem dL_spreads_317 : decode cL_spreads 317 = .ok (.invokestatic 72, 3) := by decide +kernel
theorem dL_spreads_320 : decode cL_spreads 320 = .ok (.iconst (-1), 1) := by decide +kernel
theorem dL_spreads_321 : decode cL_spreads 321 = .ok (.if_icmp .ne 7, 3) := by decide +kernel
theorem dL_spreads_324 : decode cL_spreads 324 = .ok (.iconst 1, 1) := by decide +kernel
theorem dL_spreads_325 : decode cL_spreads 325 = .ok (.goto 4, 3) := by decide +kernel
theorem dL_spreads_328 : decode cL_spreads 328 = .ok (.iconst 0, 1) := by decide +kernel
theorem dL_spreads_329 : decode cL_spreads 329 = .ok (.ireturn, 1) := by decide +kernel
theorem dL_plays_0 : decode cL_plays 0 = .ok (.new 15, 3) := by decide +kernel
theorem dL_plays_3 : decode cL_plays 3 = .ok (.dup, 1) := by decide +kernel
theorem dL_plays_4 : decode cL_plays 4 = .ok (.invokespecial 190, 3) := by decide +kernel
theorem dL_plays_7 : decode cL_plays 7 = .ok (.astore 4, 2) := by decide +kernel
theorem dL_plays_9 : decode cL_plays 9 = .ok (.aload_n 0, 1) := by decide +kernel
theorem dL_plays_10 : decode cL_plays 10 = .ok (.invokestatic 8, 3) := by decide +kernel
theorem dL_plays_13 : decode cL_plays 13 = .ok (.iconst 5, 1) := by decide +kernel
theorem dL_plays_14 : decode cL_plays 14 = .ok (.irem, 1) := by decide +kernel
theorem dL_plays_15 : decode cL_plays 15 = .ok (.ifCond .ne 14, 3) := by decide +kernel
theorem dL_plays_18 : decode cL_plays 18 = .ok (.aload_n 0, 1) := by decide +kernel
theorem dL_plays_19 : decode cL_plays 19 = .ok (.bipush 60, 2) := by decide +kernel
theorem dL_plays_21 : decode cL_plays 21 = .ok (.bipush 80, 2) := by decide +kernel
theorem dL_plays_23 : decode cL_plays 23 = .ok (.invokestatic 191, 3) := by decide +kernel
theorem dL_plays_26 : decode cL_plays 26 = .ok (.goto 10, 3) := by decide +kernel
theorem dL_plays_29 : decode cL_plays 29 = .ok (.aload_n 0, 1) := by decide +kernel
theorem dL_plays_30 : decode cL_plays 30 = .ok (.iconst 1, 1) := by decide +kernel
theorem dL_plays_31 : decode cL_plays 31 = .ok (.bipush 24, 2) := by decide +kernel
theorem dL_plays_33 : decode cL_plays 33 = .ok (.invokestatic 191, 3) := by decide +kernel
theorem dL_plays_36 : decode cL_plays 36 = .ok (.istore 5, 2) := by decide +kernel
theorem dL_plays_38 : decode cL_plays 38 = .ok (.aload 4, 2) := by decide +kernel
theorem dL_plays_40 : decode cL_plays 40 = .ok (.iconst 5, 1) := by decide +kernel
theorem dL_plays_41 : decode cL_plays 41 = .ok (.iload 5, 2) := by decide +kernel
theorem dL_plays_43 : decode cL_plays 43 = .ok (.iconst 0, 1) := by decide +kernel
theorem dL_plays_44 : decode cL_plays 44 = .ok (.iconst 0, 1) := by decide +kernel
theorem dL_plays_45 : decode cL_plays 45 = .ok (.invokestatic 72, 3) := by decide +kernel
theorem dL_plays_48 : decode cL_plays 48 = .ok (.bipush 12, 2) := by decide +kernel
theorem dL_plays_50 : decode cL_plays 50 = .ok (.if_icmp .ne 36, 3) := by decide +kernel
theorem dL_plays_53 : decode cL_plays 53 = .ok (.aload 4, 2) := by decide +kernel
theorem dL_plays_55 : decode cL_plays 55 = .ok (.iconst 5, 1) := by decide +kernel
theorem dL_plays_56 : decode cL_plays 56 = .ok (.bipush 81, 2) := by decide +kernel
theorem dL_plays_58 : decode cL_plays 58 = .ok (.iconst 0, 1) := by decide +kernel
theorem dL_plays_59 : decode cL_plays 59 = .ok (.iconst 0, 1) := by decide +kernel
theorem dL_plays_60 : decode cL_plays 60 = .ok (.invokestatic 72, 3) := by decide +kernel
theorem dL_plays_63 : decode cL_plays 63 = .ok (.bipush (-2), 2) := by decide +kernel
theorem dL_plays_65 : decode cL_plays 65 = .ok (.if_icmp .ne 21, 3) := by decide +kernel
theorem dL_plays_68 : decode cL_plays 68 = .ok (.aload 4, 2) := by decide +kernel
theorem dL_plays_70 : decode cL_plays 70 = .ok (.iconst 5, 1) := by decide +kernel
theorem dL_plays_71 : decode cL_plays 71 = .ok (.iconst 0, 1) := by decide +kernel
theorem dL_plays_72 : decode cL_plays 72 = .ok (.iconst 0, 1) := by decide +kernel
theorem dL_plays_73 : decode cL_plays 73 = .ok (.iconst 0, 1) := by decide +kernel
theorem dL_plays_74 : decode cL_plays 74 = .ok (.invokestatic 72, 3) := by decide +kernel
theorem dL_plays_77 : decode cL_plays 77 = .ok (.bipush (-2), 2) := by decide +kernel
theorem dL_plays_79 : decode cL_plays 79 = .ok (.if_icmp .ne 7, 3) := by decide +kernel
theorem dL_plays_82 : decode cL_plays 82 = .ok (.iconst 1, 1) := by decide +kernel
theorem dL_plays_83 : decode cL_plays 83 = .ok (.goto 4, 3) := by decide +kernel
theorem dL_plays_86 : decode cL_plays 86 = .ok (.iconst 0, 1) := by decide +kernel
theorem dL_plays_87 : decode cL_plays 87 = .ok (.istore 6, 2) := by decide +kernel
theorem dL_plays_89 : decode cL_plays 89 = .ok (.iconst 0, 1) := by decide +kernel
theorem dL_plays_90 : decode cL_plays 90 = .ok (.istore 7, 2) := by decide +kernel
theorem dL_plays_92 : decode cL_plays 92 = .ok (.iload 7, 2) := by decide +kernel
theorem dL_plays_94 : decode cL_plays 94 = .ok (.iconst 3, 1) := by decide +kernel
theorem dL_plays_95 : decode cL_plays 95 = .ok (.if_icmp .ge 19, 3) := by decide +kernel
theorem dL_plays_98 : decode cL_plays 98 = .ok (.aload 4, 2) := by decide +kernel
theorem dL_plays_100 : decode cL_plays 100 = .ok (.aload_n 0, 1) := by decide +kernel
theorem dL_plays_101 : decode cL_plays 101 = .ok (.iload 7, 2) := by decide +kernel
theorem dL_plays_103 : decode cL_plays 103 = .ok (.iload 5, 2) := by decide +kernel
theorem dL_plays_105 : decode cL_plays 105 = .ok (.invokestatic 195, 3) := by decide +kernel
theorem dL_plays_108 : decode cL_plays 108 = .ok (.iinc 7 1, 3) := by decide +kernel
theorem dL_plays_111 : decode cL_plays 111 = .ok (.goto (-19), 3) := by decide +kernel
theorem dL_plays_114 : decode cL_plays 114 = .ok (.iconst 0, 1) := by decide +kernel
theorem dL_plays_115 : decode cL_plays 115 = .ok (.istore 7, 2) := by decide +kernel
theorem dL_plays_117 : decode cL_plays 117 = .ok (.iload 7, 2) := by decide +kernel
theorem dL_plays_119 : decode cL_plays 119 = .ok (.bipush 8, 2) := by decide +kernel
theorem dL_plays_121 : decode cL_plays 121 = .ok (.if_icmp .ge 132, 3) := by decide +kernel
theorem dL_plays_124 : decode cL_plays 124 = .ok (.iload 6, 2) := by decide +kernel
theorem dL_plays_126 : decode cL_plays 126 = .ok (.ifCond .eq 127, 3) := by decide +kernel
theorem dL_plays_129 : decode cL_plays 129 = .ok (.aload_n 0, 1) := by decide +kernel
theorem dL_plays_130 : decode cL_plays 130 = .ok (.invokestatic 8, 3) := by decide +kernel
theorem dL_plays_133 : decode cL_plays 133 = .ok (.bipush 6, 2) := by decide +kernel
theorem dL_plays_135 : decode cL_plays 135 = .ok (.irem, 1) := by decide +kernel
theorem dL_plays_136 : decode cL_plays 136 = .ok (.istore 8, 2) := by decide +kernel
theorem dL_plays_138 : decode cL_plays 138 = .ok (.aload_n 0, 1) := by decide +kernel
theorem dL_plays_139 : decode cL_plays 139 = .ok (.invokestatic 8, 3) := by decide +kernel
theorem dL_plays_142 : decode cL_plays 142 = .ok (.iconst 3, 1) := by decide +kernel
theorem dL_plays_143 : decode cL_plays 143 = .ok (.irem, 1) := by decide +kernel
theorem dL_plays_144 : decode cL_plays 144 = .ok (.istore 9, 2) := by decide +kernel
theorem dL_plays_146 : decode cL_plays 146 = .ok (.iload 8, 2) := by decide +kernel
theorem dL_plays_148 : decode cL_plays 148 = .ok (.ifCond .ne 16, 3) := by decide +kernel
theorem dL_plays_151 : decode cL_plays 151 = .ok (.aload 4, 2) := by decide +kernel
theorem dL_plays_153 : decode cL_plays 153 = .ok (.aload_n 0, 1) := by decide +kernel
theorem dL_plays_154 : decode cL_plays 154 = .ok (.iload 9, 2) := by decide +kernel
theorem dL_plays_156 : decode cL_plays 156 = .ok (.iload 5, 2) := by decide +kernel
theorem dL_plays_158 : decode cL_plays 158 = .ok (.invokestatic 195, 3) := by decide +kernel
theorem dL_plays_161 : decode cL_plays 161 = .ok (.goto 86, 3) := by decide +kernel
theorem dL_plays_164 : decode cL_plays 164 = .ok (.iload 8, 2) := by decide +kernel
theorem dL_plays_166 : decode cL_plays 166 = .ok (.iconst 1, 1) := by decide +kernel
theorem dL_plays_167 : decode cL_plays 167 = .ok (.if_icmp .ne 19, 3) := by decide +kernel
theorem dL_plays_170 : decode cL_plays 170 = .ok (.aload 4, 2) := by decide +kernel
theorem dL_plays_172 : decode cL_plays 172 = .ok (.aload_n 0, 1) := by decide +kernel
theorem dL_plays_173 : decode cL_plays 173 = .ok (.iload 5, 2) := by decide +kernel
theorem dL_plays_175 : decode cL_plays 175 = .ok (.aload_n 1, 1) := by decide +kernel
theorem dL_plays_176 : decode cL_plays 176 = .ok (.aload_n 2, 1) := by decide +kernel
theorem dL_plays_177 : decode cL_plays 177 = .ok (.aload_n 3, 1) := by decide +kernel
theorem dL_plays_178 : decode cL_plays 178 = .ok (.invokestatic 199, 3) := by decide +kernel
theorem dL_plays_181 : decode cL_plays 181 = .ok (.istore 6, 2) := by decide +kernel
theorem dL_plays_183 : decode cL_plays 183 = .ok (.goto 64, 3) := by decide +kernel
theorem dL_plays_186 : decode cL_plays 186 = .ok (.iload 8, 2) := by decide +kernel
theorem dL_plays_188 : decode cL_plays 188 = .ok (.iconst 2, 1) := by decide +kernel
theorem dL_plays_189 : decode cL_plays 189 = .ok (.if_icmp .ne 20, 3) := by decide +kernel
theorem dL_plays_192 : decode cL_plays 192 = .ok (.aload 4, 2) := by decide +kernel
theorem dL_plays_194 : decode cL_plays 194 = .ok (.aload_n 0, 1) := by decide +kernel
theorem dL_plays_195 : decode cL_plays 195 = .ok (.iload 9, 2) := by decide +kernel
theorem dL_plays_197 : decode cL_plays 197 = .ok (.iload 5, 2) := by decide +kernel
theorem dL_plays_199 : decode cL_plays 199 = .ok (.aload_n 1, 1) := by decide +kernel
theorem dL_plays_200 : decode cL_plays 200 = .ok (.aload_n 2, 1) := by decide +kernel
theorem dL_plays_201 : decode cL_plays 201 = .ok (.invokestatic 203, 3) := by decide +kernel
theorem dL_plays_204 : decode cL_plays 204 = .ok (.istore 6, 2) := by decide +kernel
theorem dL_plays_206 : decode cL_plays 206 = .ok (.goto 41, 3) := by decide +kernel
theorem dL_plays_209 : decode cL_plays 209 = .ok (.iload 8, 2) := by decide +kernel
theorem dL_plays_211 : decode cL_plays 211 = .ok (.iconst 3, 1) := by decide +kernel
theorem dL_plays_212 : decode cL_plays 212 = .ok (.if_icmp .ne 20, 3) := by decide +kernel
theorem dL_plays_215 : decode cL_plays 215 = .ok (.aload 4, 2) := by decide +kernel
theorem dL_plays_217 : decode cL_plays 217 = .ok (.aload_n 0, 1) := by decide +kernel
theorem dL_plays_218 : decode cL_plays 218 = .ok (.iload 9, 2) := by decide +kernel
theorem dL_plays_220 : decode cL_plays 220 = .ok (.iload 5, 2) := by decide +kernel
theorem dL_plays_222 : decode cL_plays 222 = .ok (.aload_n 1, 1) := by decide +kernel
theorem dL_plays_223 : decode cL_plays 223 = .ok (.aload_n 2, 1) := by decide +kernel
theorem dL_plays_224 : decode cL_plays 224 = .ok (.invokestatic 207, 3) := by decide +kernel
theorem dL_plays_227 : decode cL_plays 227 = .ok (.istore 6, 2) := by decide +kernel
theorem dL_plays_229 : decode cL_plays 229 = .ok (.goto 18, 3) := by decide +kernel
theorem dL_plays_232 : decode cL_plays 232 = .ok (.aload 4, 2) := by decide +kernel
theorem dL_plays_234 : decode cL_plays 234 = .ok (.aload_n 0, 1) := by decide +kernel
theorem dL_plays_235 : decode cL_plays 235 = .ok (.iload 9, 2) := by decide +kernel
theorem dL_plays_237 : decode cL_plays 237 = .ok (.iload 5, 2) := by decide +kernel
theorem dL_plays_239 : decode cL_plays 239 = .ok (.aload_n 1, 1) := by decide +kernel
theorem dL_plays_240 : decode cL_plays 240 = .ok (.aload_n 2, 1) := by decide +kernel
theorem dL_plays_241 : decode cL_plays 241 = .ok (.aload_n 3, 1) := by decide +kernel
theorem dL_plays_242 : decode cL_plays 242 = .ok (.invokestatic 210, 3) := by decide +kernel
theorem dL_plays_245 : decode cL_plays 245 = .ok (.istore 6, 2) := by decide +kernel
theorem dL_plays_247 : decode cL_plays 247 = .ok (.iinc 7 1, 3) := by decide +kernel
theorem dL_plays_250 : decode cL_plays 250 = .ok (.goto (-133), 3) := by decide +kernel
theorem dL_plays_253 : decode cL_plays 253 = .ok (.iload 6, 2) := by decide +kernel
theorem dL_plays_255 : decode cL_plays 255 = .ok (.ifCond .eq 112, 3) := by decide +kernel
theorem dL_plays_258 : decode cL_plays 258 = .ok (.aload 4, 2) := by decide +kernel
theorem dL_plays_260 : decode cL_plays 260 = .ok (.iconst 0, 1) := by decide +kernel
theorem dL_plays_261 : decode cL_plays 261 = .ok (.iconst 0, 1) := by decide +kernel
theorem dL_plays_262 : decode cL_plays 262 = .ok (.iconst 4, 1) := by decide +kernel
theorem dL_plays_263 : decode cL_plays 263 = .ok (.iconst 0, 1) := by decide +kernel
theorem dL_plays_264 : decode cL_plays 264 = .ok (.invokestatic 72, 3) := by decide +kernel
theorem dL_plays_267 : decode cL_plays 267 = .ok (.iconst (-1), 1) := by decide +kernel
theorem dL_plays_268 : decode cL_plays 268 = .ok (.if_icmp .ne 99, 3) := by decide +kernel
theorem dL_plays_271 : decode cL_plays 271 = .ok (.aload 4, 2) := by decide +kernel
theorem dL_plays_273 : decode cL_plays 273 = .ok (.iconst 0, 1) := by decide +kernel
theorem dL_plays_274 : decode cL_plays 274 = .ok (.iconst 0, 1) := by decide +kernel
theorem dL_plays_275 : decode cL_plays 275 = .ok (.iconst 1, 1) := by decide +kernel
theorem dL_plays_276 : decode cL_plays 276 = .ok (.iconst 4, 1) := by decide +kernel
theorem dL_plays_277 : decode cL_plays 277 = .ok (.invokestatic 72, 3) := by decide +kernel
theorem dL_plays_280 : decode cL_plays 280 = .ok (.bipush (-2), 2) := by decide +kernel
theorem dL_plays_282 : decode cL_plays 282 = .ok (.if_icmp .ne 85, 3) := by decide +kernel
theorem dL_plays_285 : decode cL_plays 285 = .ok (.aload 4, 2) := by decide +kernel
theorem dL_plays_287 : decode cL_plays 287 = .ok (.iconst 4, 1) := by decide +kernel
theorem dL_plays_288 : decode cL_plays 288 = .ok (.iconst 0, 1) := by decide +kernel
theorem dL_plays_289 : decode cL_plays 289 = .ok (.iconst 1, 1) := by decide +kernel
theorem dL_plays_290 : decode cL_plays 290 = .ok (.sipush 201, 3) := by decide +kernel
theorem dL_plays_293 : decode cL_plays 293 = .ok (.invokestatic 72, 3) := by decide +kernel
theorem dL_plays_296 : decode cL_plays 296 = .ok (.bipush (-2), 2) := by decide +kernel
theorem dL_plays_298 : decode cL_plays 298 = .ok (.if_icmp .ne 69, 3) := by decide +kernel
theorem dL_plays_301 : decode cL_plays 301 = .ok (.aload 4, 2) := by decide +kernel
theorem dL_plays_303 : decode cL_plays 303 = .ok (.bipush 8, 2) := by decide +kernel
theorem dL_plays_305 : decode cL_plays 305 = .ok (.iconst 0, 1) := by decide +kernel
theorem dL_plays_306 : decode cL_plays 306 = .ok (.iload 5, 2) := by decide +kernel
theorem dL_plays_308 : decode cL_plays 308 = .ok (.iconst 0, 1) := by decide +kernel
theorem dL_plays_309 : decode cL_plays 309 = .ok (.invokestatic 72, 3) := by decide +kernel
theorem dL_plays_312 : decode cL_plays 312 = .ok (.iconst (-1), 1) := by decide +kernel
theorem dL_plays_313 : decode cL_plays 313 = .ok (.if_icmp .ne 54, 3) := by decide +kernel
theorem dL_plays_316 : decode cL_plays 316 = .ok (.aload 4, 2) := by decide +kernel
theorem dL_plays_318 : decode cL_plays 318 = .ok (.bipush 9, 2) := by decide +kernel
theorem dL_plays_320 : decode cL_plays 320 = .ok (.iconst 0, 1) := by decide +kernel
theorem dL_plays_321 : decode cL_plays 321 = .ok (.iconst 0, 1) := by decide +kernel
theorem dL_plays_322 : decode cL_plays 322 = .ok (.iload 5, 2) := by decide +kernel
theorem dL_plays_324 : decode cL_plays 324 = .ok (.iconst 1, 1) := by decide +kernel
theorem dL_plays_325 : decode cL_plays 325 = .ok (.iadd, 1) := by decide +kernel
theorem dL_plays_326 : decode cL_plays 326 = .ok (.invokestatic 72, 3) := by decide +kernel
theorem dL_plays_329 : decode cL_plays 329 = .ok (.iconst (-1), 1) := by decide +kernel
theorem dL_plays_330 : decode cL_plays 330 = .ok (.if_icmp .ne 37, 3) := by decide +kernel
theorem dL_plays_333 : decode cL_plays 333 = .ok (.aload 4, 2) := by decide +kernel
theorem dL_plays_335 : decode cL_plays 335 = .ok (.bipush 11, 2) := by decide +kernel
theorem dL_plays_337 : decode cL_plays 337 = .ok (.iconst 0, 1) := by decide +kernel
theorem dL_plays_338 : decode cL_plays 338 = .ok (.iconst 0, 1) := by decide +kernel
theorem dL_plays_339 : decode cL_plays 339 = .ok (.iconst 0, 1) := by decide +kernel
theorem dL_plays_340 : decode cL_plays 340 = .ok (.invokestatic 72, 3) := by decide +kernel
theorem dL_plays_343 : decode cL_plays 343 = .ok (.bipush (-2), 2) := by decide +kernel
theorem dL_plays_345 : decode cL_plays 345 = .ok (.if_icmp .ne 22, 3) := by decide +kernel
theorem dL_plays_348 : decode cL_plays 348 = .ok (.aload 4, 2) := by decide +kernel
theorem dL_plays_350 : decode cL_plays 350 = .ok (.bipush 11, 2) := by decide +kernel
theorem dL_plays_352 : decode cL_plays 352 = .ok (.iconst 0, 1) := by decide +kernel
theorem dL_plays_353 : decode cL_plays 353 = .ok (.iconst 0, 1) := by decide +kernel
theorem dL_plays_354 : decode cL_plays 354 = .ok (.iload 5, 2) := by decide +kernel
theorem dL_plays_356 : decode cL_plays 356 = .ok (.invokestatic 72, 3) := by decide +kernel
theorem dL_plays_359 : decode cL_plays 359 = .ok (.iconst (-1), 1) := by decide +kernel
theorem dL_plays_360 : decode cL_plays 360 = .ok (.if_icmp .ne 7, 3) := by decide +kernel
theorem dL_plays_363 : decode cL_plays 363 = .ok (.iconst 1, 1) := by decide +kernel
theorem dL_plays_364 : decode cL_plays 364 = .ok (.goto 4, 3) := by decide +kernel
theorem dL_plays_367 : decode cL_plays 367 = .ok (.iconst 0, 1) := by decide +kernel
theorem dL_plays_368 : decode cL_plays 368 = .ok (.ireturn, 1) := by decide +kernel
theorem dL_law_0 : decode cL_law 0 = .ok (.iconst 1, 1) := by decide +kernel
theorem dL_law_1 : decode cL_law 1 = .ok (.newarray .int, 2) := by decide +kernel
theorem dL_law_3 : decode cL_law 3 = .ok (.dup, 1) := by decide +kernel
theorem dL_law_4 : decode cL_law 4 = .ok (.iconst 0, 1) := by decide +kernel
theorem dL_law_5 : decode cL_law 5 = .ok (.ldc 214, 2) := by decide +kernel
theorem dL_law_7 : decode cL_law 7 = .ok (.iastore, 1) := by decide +kernel
theorem dL_law_8 : decode cL_law 8 = .ok (.astore_n 1, 1) := by decide +kernel
theorem dL_law_9 : decode cL_law 9 = .ok (.iconst 0, 1) := by decide +kernel
theorem dL_law_10 : decode cL_law 10 = .ok (.istore_n 2, 1) := by decide +kernel
theorem dL_law_11 : decode cL_law 11 = .ok (.iload_n 2, 1) := by decide +kernel
theorem dL_law_12 : decode cL_law 12 = .ok (.aload_n 0, 1) := by decide +kernel
theorem dL_law_13 : decode cL_law 13 = .ok (.arraylength, 1) := by decide +kernel
theorem dL_law_14 : decode cL_law 14 = .ok (.if_icmp .ge 22, 3) := by decide +kernel
theorem dL_law_17 : decode cL_law 17 = .ok (.aload_n 1, 1) := by decide +kernel
theorem dL_law_18 : decode cL_law 18 = .ok (.iconst 0, 1) := by decide +kernel
theorem dL_law_19 : decode cL_law 19 = .ok (.bipush 31, 2) := by decide +kernel
theorem dL_law_21 : decode cL_law 21 = .ok (.aload_n 1, 1) := by decide +kernel
theorem dL_law_22 : decode cL_law 22 = .ok (.iconst 0, 1) := by decide +kernel
theorem dL_law_23 : decode cL_law 23 = .ok (.iaload, 1) := by decide +kernel
theorem dL_law_24 : decode cL_law 24 = .ok (.imul, 1) := by decide +kernel
theorem dL_law_25 : decode cL_law 25 = .ok (.aload_n 0, 1) := by decide +kernel
theorem dL_law_26 : decode cL_law 26 = .ok (.iload_n 2, 1) := by decide +kernel
theorem dL_law_27 : decode cL_law 27 = .ok (.iaload, 1) := by decide +kernel
theorem dL_law_28 : decode cL_law 28 = .ok (.iadd, 1) := by decide +kernel
theorem dL_law_29 : decode cL_law 29 = .ok (.iastore, 1) := by decide +kernel
theorem dL_law_30 : decode cL_law 30 = .ok (.iinc 2 1, 3) := by decide +kernel
theorem dL_law_33 : decode cL_law 33 = .ok (.goto (-22), 3) := by decide +kernel
theorem dL_law_36 : decode cL_law 36 = .ok (.sipush 6480, 3) := by decide +kernel
theorem dL_law_39 : decode cL_law 39 = .ok (.newarray .boolean, 2) := by decide +kernel
theorem dL_law_41 : decode cL_law 41 = .ok (.astore_n 2, 1) := by decide +kernel
theorem dL_law_42 : decode cL_law 42 = .ok (.sipush 6480, 3) := by decide +kernel
theorem dL_law_45 : decode cL_law 45 = .ok (.newarray .boolean, 2) := by decide +kernel
theorem dL_law_47 : decode cL_law 47 = .ok (.astore_n 3, 1) := by decide +kernel
theorem dL_law_48 : decode cL_law 48 = .ok (.sipush 6480, 3) := by decide +kernel
theorem dL_law_51 : decode cL_law 51 = .ok (.newarray .boolean, 2) := by decide +kernel
theorem dL_law_53 : decode cL_law 53 = .ok (.astore 4, 2) := by decide +kernel
theorem dL_law_55 : decode cL_law 55 = .ok (.aload_n 1, 1) := by decide +kernel
theorem dL_law_56 : decode cL_law 56 = .ok (.aload_n 2, 1) := by decide +kernel
theorem dL_law_57 : decode cL_law 57 = .ok (.aload_n 3, 1) := by decide +kernel
theorem dL_law_58 : decode cL_law 58 = .ok (.aload 4, 2) := by decide +kernel
theorem dL_law_60 : decode cL_law 60 = .ok (.invokestatic 215, 3) := by decide +kernel
theorem dL_law_63 : decode cL_law 63 = .ok (.ifCond .eq 18, 3) := by decide +kernel
theorem dL_law_66 : decode cL_law 66 = .ok (.aload_n 1, 1) := by decide +kernel
theorem dL_law_67 : decode cL_law 67 = .ok (.aload_n 2, 1) := by decide +kernel
theorem dL_law_68 : decode cL_law 68 = .ok (.aload_n 3, 1) := by decide +kernel
theorem dL_law_69 : decode cL_law 69 = .ok (.aload 4, 2) := by decide +kernel
theorem dL_law_71 : decode cL_law 71 = .ok (.invokestatic 215, 3) := by decide +kernel
theorem dL_law_74 : decode cL_law 74 = .ok (.ifCond .eq 7, 3) := by decide +kernel
theorem dL_law_77 : decode cL_law 77 = .ok (.iconst 1, 1) := by decide +kernel
theorem dL_law_78 : decode cL_law 78 = .ok (.goto 4, 3) := by decide +kernel
theorem dL_law_81 : decode cL_law 81 = .ok (.iconst 0, 1) := by decide +kernel
theorem dL_law_82 : decode cL_law 82 = .ok (.ireturn, 1) := by decide +kernel
