theorem dL_law_0 : decode cL_law 0 = .ok (.new 26, 3) := by decide +kernel
theorem dL_law_3 : decode cL_law 3 = .ok (.dup, 1) := by decide +kernel
theorem dL_law_4 : decode cL_law 4 = .ok (.invokespecial 102, 3) := by decide +kernel
theorem dL_law_7 : decode cL_law 7 = .ok (.astore_n 1, 1) := by decide +kernel
theorem dL_law_8 : decode cL_law 8 = .ok (.aload_n 1, 1) := by decide +kernel
theorem dL_law_9 : decode cL_law 9 = .ok (.aload_n 0, 1) := by decide +kernel
theorem dL_law_10 : decode cL_law 10 = .ok (.invokestatic 103, 3) := by decide +kernel
theorem dL_law_13 : decode cL_law 13 = .ok (.astore_n 2, 1) := by decide +kernel
theorem dL_law_14 : decode cL_law 14 = .ok (.aload_n 2, 1) := by decide +kernel
theorem dL_law_15 : decode cL_law 15 = .ok (.ifnonnull 5, 3) := by decide +kernel
theorem dL_law_18 : decode cL_law 18 = .ok (.iconst 0, 1) := by decide +kernel
theorem dL_law_19 : decode cL_law 19 = .ok (.ireturn, 1) := by decide +kernel
theorem dL_law_20 : decode cL_law 20 = .ok (.iconst 0, 1) := by decide +kernel
theorem dL_law_21 : decode cL_law 21 = .ok (.istore_n 3, 1) := by decide +kernel
theorem dL_law_22 : decode cL_law 22 = .ok (.iload_n 3, 1) := by decide +kernel
theorem dL_law_23 : decode cL_law 23 = .ok (.bipush 44, 2) := by decide +kernel
theorem dL_law_25 : decode cL_law 25 = .ok (.if_icmp .ge 990, 3) := by decide +kernel
theorem dL_law_28 : decode cL_law 28 = .ok (.aload_n 0, 1) := by decide +kernel
theorem dL_law_29 : decode cL_law 29 = .ok (.iload_n 3, 1) := by decide +kernel
theorem dL_law_30 : decode cL_law 30 = .ok (.bipush 16, 2) := by decide +kernel
theorem dL_law_32 : decode cL_law 32 = .ok (.irem, 1) := by decide +kernel
theorem dL_law_33 : decode cL_law 33 = .ok (.invokestatic 94, 3) := by decide +kernel
theorem dL_law_36 : decode cL_law 36 = .ok (.iload_n 3, 1) := by decide +kernel
theorem dL_law_37 : decode cL_law 37 = .ok (.bipush 16, 2) := by decide +kernel
theorem dL_law_39 : decode cL_law 39 = .ok (.idiv, 1) := by decide +kernel
theorem dL_law_40 : decode cL_law 40 = .ok (.iconst 3, 1) := by decide +kernel
theorem dL_law_41 : decode cL_law 41 = .ok (.imul, 1) := by decide +kernel
theorem dL_law_42 : decode cL_law 42 = .ok (.ishr, 1) := by decide +kernel
theorem dL_law_43 : decode cL_law 43 = .ok (.sipush 131, 3) := by decide +kernel
theorem dL_law_46 : decode cL_law 46 = .ok (.iload_n 3, 1) := by decide +kernel
theorem dL_law_47 : decode cL_law 47 = .ok (.imul, 1) := by decide +kernel
theorem dL_law_48 : decode cL_law 48 = .ok (.iadd, 1) := by decide +kernel
theorem dL_law_49 : decode cL_law 49 = .ok (.istore 4, 2) := by decide +kernel
theorem dL_law_51 : decode cL_law 51 = .ok (.aload_n 1, 1) := by decide +kernel
theorem dL_law_52 : decode cL_law 52 = .ok (.aload_n 2, 1) := by decide +kernel
theorem dL_law_53 : decode cL_law 53 = .ok (.iload 4, 2) := by decide +kernel
theorem dL_law_55 : decode cL_law 55 = .ok (.invokestatic 98, 3) := by decide +kernel
theorem dL_law_58 : decode cL_law 58 = .ok (.ifCond .ne 5, 3) := by decide +kernel
theorem dL_law_61 : decode cL_law 61 = .ok (.iconst 0, 1) := by decide +kernel
theorem dL_law_62 : decode cL_law 62 = .ok (.ireturn, 1) := by decide +kernel
theorem dL_law_63 : decode cL_law 63 = .ok (.iload_n 3, 1) := by decide +kernel
theorem dL_law_64 : decode cL_law 64 = .ok (.iconst 5, 1) := by decide +kernel
theorem dL_law_65 : decode cL_law 65 = .ok (.irem, 1) := by decide +kernel
theorem dL_law_66 : decode cL_law 66 = .ok (.iconst 4, 1) := by decide +kernel
theorem dL_law_67 : decode cL_law 67 = .ok (.if_icmp .ne 44, 3) := by decide +kernel
theorem dL_law_70 : decode cL_law 70 = .ok (.iconst 1, 1) := by decide +kernel
theorem dL_law_71 : decode cL_law 71 = .ok (.iload 4, 2) := by decide +kernel
theorem dL_law_73 : decode cL_law 73 = .ok (.iconst 4, 1) := by decide +kernel
theorem dL_law_74 : decode cL_law 74 = .ok (.ishr, 1) := by decide +kernel
theorem dL_law_75 : decode cL_law 75 = .ok (.bipush 100, 2) := by decide +kernel
theorem dL_law_77 : decode cL_law 77 = .ok (.invokestatic 15, 3) := by decide +kernel
theorem dL_law_80 : decode cL_law 80 = .ok (.iadd, 1) := by decide +kernel
theorem dL_law_81 : decode cL_law 81 = .ok (.istore 5, 2) := by decide +kernel
theorem dL_law_83 : decode cL_law 83 = .ok (.aload_n 1, 1) := by decide +kernel
theorem dL_law_84 : decode cL_law 84 = .ok (.iload 5, 2) := by decide +kernel
theorem dL_law_86 : decode cL_law 86 = .ok (.invokevirtual 107, 3) := by decide +kernel
theorem dL_law_89 : decode cL_law 89 = .ok (.pop, 1) := by decide +kernel
theorem dL_law_90 : decode cL_law 90 = .ok (.iconst 0, 1) := by decide +kernel
theorem dL_law_91 : decode cL_law 91 = .ok (.istore 6, 2) := by decide +kernel
theorem dL_law_93 : decode cL_law 93 = .ok (.iload 6, 2) := by decide +kernel
theorem dL_law_95 : decode cL_law 95 = .ok (.iload 5, 2) := by decide +kernel
theorem dL_law_97 : decode cL_law 97 = .ok (.if_icmp .ge 14, 3) := by decide +kernel
theorem dL_law_100 : decode cL_law 100 = .ok (.aload_n 2, 1) := by decide +kernel
theorem dL_law_101 : decode cL_law 101 = .ok (.invokevirtual 110, 3) := by decide +kernel
theorem dL_law_104 : decode cL_law 104 = .ok (.pop, 1) := by decide +kernel
theorem dL_law_105 : decode cL_law 105 = .ok (.iinc 6 1, 3) := by decide +kernel
theorem dL_law_108 : decode cL_law 108 = .ok (.goto (-15), 3) := by decide +kernel
theorem dL_law_111 : decode cL_law 111 = .ok (.aload_n 1, 1) := by decide +kernel
theorem dL_law_112 : decode cL_law 112 = .ok (.iconst 2, 1) := by decide +kernel
theorem dL_law_113 : decode cL_law 113 = .ok (.invokevirtual 113, 3) := by decide +kernel
theorem dL_law_116 : decode cL_law 116 = .ok (.istore 5, 2) := by decide +kernel
theorem dL_law_118 : decode cL_law 118 = .ok (.iload 5, 2) := by decide +kernel
theorem dL_law_120 : decode cL_law 120 = .ok (.bipush 11, 2) := by decide +kernel
theorem dL_law_122 : decode cL_law 122 = .ok (.multianewarray 116 2, 4) := by decide +kernel
theorem dL_law_126 : decode cL_law 126 = .ok (.astore 6, 2) := by decide +kernel
theorem dL_law_128 : decode cL_law 128 = .ok (.iload 5, 2) := by decide +kernel
theorem dL_law_130 : decode cL_law 130 = .ok (.newarray .int, 2) := by decide +kernel
theorem dL_law_132 : decode cL_law 132 = .ok (.astore 7, 2) := by decide +kernel
theorem dL_law_134 : decode cL_law 134 = .ok (.iload 5, 2) := by decide +kernel
theorem dL_law_136 : decode cL_law 136 = .ok (.newarray .int, 2) := by decide +kernel
theorem dL_law_138 : decode cL_law 138 = .ok (.astore 8, 2) := by decide +kernel
theorem dL_law_140 : decode cL_law 140 = .ok (.iconst 0, 1) := by decide +kernel
theorem dL_law_141 : decode cL_law 141 = .ok (.istore 9, 2) := by decide +kernel
theorem dL_law_143 : decode cL_law 143 = .ok (.iload 9, 2) := by decide +kernel
theorem dL_law_145 : decode cL_law 145 = .ok (.iload 5, 2) := by decide +kernel
theorem dL_law_147 : decode cL_law 147 = .ok (.if_icmp .ge 63, 3) := by decide +kernel
theorem dL_law_150 : decode cL_law 150 = .ok (.iconst 0, 1) := by decide +kernel
theorem dL_law_151 : decode cL_law 151 = .ok (.istore 10, 2) := by decide +kernel
theorem dL_law_153 : decode cL_law 153 = .ok (.iload 10, 2) := by decide +kernel
theorem dL_law_155 : decode cL_law 155 = .ok (.bipush 11, 2) := by decide +kernel
theorem dL_law_157 : decode cL_law 157 = .ok (.if_icmp .ge 25, 3) := by decide +kernel
theorem dL_law_160 : decode cL_law 160 = .ok (.aload 6, 2) := by decide +kernel
theorem dL_law_162 : decode cL_law 162 = .ok (.iload 9, 2) := by decide +kernel
theorem dL_law_164 : decode cL_law 164 = .ok (.aaload, 1) := by decide +kernel
theorem dL_law_165 : decode cL_law 165 = .ok (.iload 10, 2) := by decide +kernel
theorem dL_law_167 : decode cL_law 167 = .ok (.aload_n 1, 1) := by decide +kernel
theorem dL_law_168 : decode cL_law 168 = .ok (.iload 9, 2) := by decide +kernel
theorem dL_law_170 : decode cL_law 170 = .ok (.iload 10, 2) := by decide +kernel
theorem dL_law_172 : decode cL_law 172 = .ok (.invokevirtual 118, 3) := by decide +kernel
theorem dL_law_175 : decode cL_law 175 = .ok (.iastore, 1) := by decide +kernel
theorem dL_law_176 : decode cL_law 176 = .ok (.iinc 10 1, 3) := by decide +kernel
theorem dL_law_179 : decode cL_law 179 = .ok (.goto (-26), 3) := by decide +kernel
theorem dL_law_182 : decode cL_law 182 = .ok (.aload 7, 2) := by decide +kernel
theorem dL_law_184 : decode cL_law 184 = .ok (.iload 9, 2) := by decide +kernel
theorem dL_law_186 : decode cL_law 186 = .ok (.aload_n 1, 1) := by decide +kernel
theorem dL_law_187 : decode cL_law 187 = .ok (.iload 9, 2) := by decide +kernel
theorem dL_law_189 : decode cL_law 189 = .ok (.invokevirtual 121, 3) := by decide +kernel
theorem dL_law_192 : decode cL_law 192 = .ok (.iastore, 1) := by decide +kernel
theorem dL_law_193 : decode cL_law 193 = .ok (.aload 8, 2) := by decide +kernel
theorem dL_law_195 : decode cL_law 195 = .ok (.iload 9, 2) := by decide +kernel
theorem dL_law_197 : decode cL_law 197 = .ok (.aload_n 1, 1) := by decide +kernel
theorem dL_law_198 : decode cL_law 198 = .ok (.iload 9, 2) := by decide +kernel
theorem dL_law_200 : decode cL_law 200 = .ok (.invokevirtual 124, 3) := by decide +kernel
theorem dL_law_203 : decode cL_law 203 = .ok (.iastore, 1) := by decide +kernel
theorem dL_law_204 : decode cL_law 204 = .ok (.iinc 9 1, 3) := by decide +kernel
theorem dL_law_207 : decode cL_law 207 = .ok (.goto (-64), 3) := by decide +kernel
theorem dL_law_210 : decode cL_law 210 = .ok (.aload_n 1, 1) := by decide +kernel
theorem dL_law_211 : decode cL_law 211 = .ok (.iconst 0, 1) := by decide +kernel
theorem dL_law_212 : decode cL_law 212 = .ok (.invokevirtual 113, 3) := by decide +kernel
theorem dL_law_215 : decode cL_law 215 = .ok (.istore 9, 2) := by decide +kernel
theorem dL_law_217 : decode cL_law 217 = .ok (.aload_n 1, 1) := by decide +kernel
theorem dL_law_218 : decode cL_law 218 = .ok (.iconst 1, 1) := by decide +kernel
theorem dL_law_219 : decode cL_law 219 = .ok (.iconst 0, 1) := by decide +kernel
theorem dL_law_220 : decode cL_law 220 = .ok (.invokevirtual 127, 3) := by decide +kernel
theorem dL_law_223 : decode cL_law 223 = .ok (.istore 10, 2) := by decide +kernel
theorem dL_law_225 : decode cL_law 225 = .ok (.aload_n 1, 1) := by decide +kernel
theorem dL_law_226 : decode cL_law 226 = .ok (.iconst 1, 1) := by decide +kernel
theorem dL_law_227 : decode cL_law 227 = .ok (.iconst 1, 1) := by decide +kernel
theorem dL_law_228 : decode cL_law 228 = .ok (.invokevirtual 127, 3) := by decide +kernel
theorem dL_law_231 : decode cL_law 231 = .ok (.istore 11, 2) := by decide +kernel
theorem dL_law_233 : decode cL_law 233 = .ok (.aload_n 1, 1) := by decide +kernel
theorem dL_law_234 : decode cL_law 234 = .ok (.iconst 1, 1) := by decide +kernel
theorem dL_law_235 : decode cL_law 235 = .ok (.iconst 2, 1) := by decide +kernel
theorem dL_law_236 : decode cL_law 236 = .ok (.invokevirtual 127, 3) := by decide +kernel
theorem dL_law_239 : decode cL_law 239 = .ok (.istore 12, 2) := by decide +kernel
theorem dL_law_241 : decode cL_law 241 = .ok (.aload_n 1, 1) := by decide +kernel
theorem dL_law_242 : decode cL_law 242 = .ok (.iconst 1, 1) := by decide +kernel
theorem dL_law_243 : decode cL_law 243 = .ok (.iconst 3, 1) := by decide +kernel
theorem dL_law_244 : decode cL_law 244 = .ok (.invokevirtual 127, 3) := by decide +kernel
theorem dL_law_247 : decode cL_law 247 = .ok (.istore 13, 2) := by decide +kernel
theorem dL_law_249 : decode cL_law 249 = .ok (.aload_n 1, 1) := by decide +kernel
theorem dL_law_250 : decode cL_law 250 = .ok (.iconst 1, 1) := by decide +kernel
theorem dL_law_251 : decode cL_law 251 = .ok (.invokevirtual 107, 3) := by decide +kernel
theorem dL_law_254 : decode cL_law 254 = .ok (.istore 14, 2) := by decide +kernel
theorem dL_law_256 : decode cL_law 256 = .ok (.aload_n 2, 1) := by decide +kernel
theorem dL_law_257 : decode cL_law 257 = .ok (.invokevirtual 110, 3) := by decide +kernel
theorem dL_law_260 : decode cL_law 260 = .ok (.pop, 1) := by decide +kernel
theorem dL_law_261 : decode cL_law 261 = .ok (.iload 14, 2) := by decide +kernel
theorem dL_law_263 : decode cL_law 263 = .ok (.iload 10, 2) := by decide +kernel
theorem dL_law_265 : decode cL_law 265 = .ok (.if_icmp .ne 62, 3) := by decide +kernel
theorem dL_law_268 : decode cL_law 268 = .ok (.aload_n 1, 1) := by decide +kernel
theorem dL_law_269 : decode cL_law 269 = .ok (.iconst 3, 1) := by decide +kernel
theorem dL_law_270 : decode cL_law 270 = .ok (.invokevirtual 113, 3) := by decide +kernel
theorem dL_law_273 : decode cL_law 273 = .ok (.iload 12, 2) := by decide +kernel
theorem dL_law_275 : decode cL_law 275 = .ok (.if_icmp .ne 52, 3) := by decide +kernel
theorem dL_law_278 : decode cL_law 278 = .ok (.aload_n 1, 1) := by decide +kernel
theorem dL_law_279 : decode cL_law 279 = .ok (.bipush 7, 2) := by decide +kernel
theorem dL_law_281 : decode cL_law 281 = .ok (.invokevirtual 113, 3) := by decide +kernel
theorem dL_law_284 : decode cL_law 284 = .ok (.iload 13, 2) := by decide +kernel
theorem dL_law_286 : decode cL_law 286 = .ok (.if_icmp .ne 41, 3) := by decide +kernel
theorem dL_law_289 : decode cL_law 289 = .ok (.aload_n 1, 1) := by decide +kernel
theorem dL_law_290 : decode cL_law 290 = .ok (.iconst 5, 1) := by decide +kernel
theorem dL_law_291 : decode cL_law 291 = .ok (.invokevirtual 113, 3) := by decide +kernel
theorem dL_law_294 : decode cL_law 294 = .ok (.iload 10, 2) := by decide +kernel
theorem dL_law_296 : decode cL_law 296 = .ok (.if_icmp .ne 31, 3) := by decide +kernel
theorem dL_law_299 : decode cL_law 299 = .ok (.aload_n 1, 1) := by decide +kernel
theorem dL_law_300 : decode cL_law 300 = .ok (.iconst 0, 1) := by decide +kernel
theorem dL_law_301 : decode cL_law 301 = .ok (.invokevirtual 113, 3) := by decide +kernel
theorem dL_law_304 : decode cL_law 304 = .ok (.iload 9, 2) := by decide +kernel
theorem dL_law_306 : decode cL_law 306 = .ok (.iconst 1, 1) := by decide +kernel
theorem dL_law_307 : decode cL_law 307 = .ok (.iadd, 1) := by decide +kernel
theorem dL_law_308 : decode cL_law 308 = .ok (.if_icmp .ne 19, 3) := by decide +kernel
theorem dL_law_311 : decode cL_law 311 = .ok (.aload_n 1, 1) := by decide +kernel
theorem dL_law_312 : decode cL_law 312 = .ok (.iconst 1, 1) := by decide +kernel
theorem dL_law_313 : decode cL_law 313 = .ok (.invokevirtual 113, 3) := by decide +kernel
theorem dL_law_316 : decode cL_law 316 = .ok (.iload 9, 2) := by decide +kernel
theorem dL_law_318 : decode cL_law 318 = .ok (.iconst 1, 1) := by decide +kernel
theorem dL_law_319 : decode cL_law 319 = .ok (.iadd, 1) := by decide +kernel
theorem dL_law_320 : decode cL_law 320 = .ok (.sipush 720, 3) := by decide +kernel
theorem dL_law_323 : decode cL_law 323 = .ok (.irem, 1) := by decide +kernel
theorem dL_law_324 : decode cL_law 324 = .ok (.if_icmp .eq 5, 3) := by decide +kernel
theorem dL_law_327 : decode cL_law 327 = .ok (.iconst 0, 1) := by decide +kernel
theorem dL_law_328 : decode cL_law 328 = .ok (.ireturn, 1) := by decide +kernel
theorem dL_law_329 : decode cL_law 329 = .ok (.iconst 0, 1) := by decide +kernel
theorem dL_law_330 : decode cL_law 330 = .ok (.istore 15, 2) := by decide +kernel
theorem dL_law_332 : decode cL_law 332 = .ok (.iconst 0, 1) := by decide +kernel
theorem dL_law_333 : decode cL_law 333 = .ok (.istore 16, 2) := by decide +kernel
theorem dL_law_335 : decode cL_law 335 = .ok (.iconst 0, 1) := by decide +kernel
theorem dL_law_336 : decode cL_law 336 = .ok (.istore 17, 2) := by decide +kernel
theorem dL_law_338 : decode cL_law 338 = .ok (.iconst 0, 1) := by decide +kernel
theorem dL_law_339 : decode cL_law 339 = .ok (.istore 18, 2) := by decide +kernel
theorem dL_law_341 : decode cL_law 341 = .ok (.iload 18, 2) := by decide +kernel
theorem dL_law_343 : decode cL_law 343 = .ok (.iload 5, 2) := by decide +kernel
theorem dL_law_345 : decode cL_law 345 = .ok (.if_icmp .ge 624, 3) := by decide +kernel
theorem dL_law_348 : decode cL_law 348 = .ok (.aload_n 1, 1) := by decide +kernel
theorem dL_law_349 : decode cL_law 349 = .ok (.iload 18, 2) := by decide +kernel
theorem dL_law_351 : decode cL_law 351 = .ok (.iconst 0, 1) := by decide +kernel
theorem dL_law_352 : decode cL_law 352 = .ok (.invokevirtual 118, 3) := by decide +kernel
theorem dL_law_355 : decode cL_law 355 = .ok (.istore 19, 2) := by decide +kernel
theorem dL_law_357 : decode cL_law 357 = .ok (.aload_n 1, 1) := by decide +kernel
theorem dL_law_358 : decode cL_law 358 = .ok (.iload 18, 2) := by decide +kernel
theorem dL_law_360 : decode cL_law 360 = .ok (.bipush 7, 2) := by decide +kernel
theorem dL_law_362 : decode cL_law 362 = .ok (.invokevirtual 118, 3) := by decide +kernel
theorem dL_law_365 : decode cL_law 365 = .ok (.aload 6, 2) := by decide +kernel
theorem dL_law_367 : decode cL_law 367 = .ok (.iload 18, 2) := by decide +kernel
theorem dL_law_369 : decode cL_law 369 = .ok (.aaload, 1) := by decide +kernel
theorem dL_law_370 : decode cL_law 370 = .ok (.bipush 7, 2) := by decide +kernel
theorem dL_law_372 : decode cL_law 372 = .ok (.iaload, 1) := by decide +kernel
theorem dL_law_373 : decode cL_law 373 = .ok (.isub, 1) := by decide +kernel
theorem dL_law_374 : decode cL_law 374 = .ok (.istore 20, 2) := by decide +kernel
theorem dL_law_376 : decode cL_law 376 = .ok (.iload 15, 2) := by decide +kernel
theorem dL_law_378 : decode cL_law 378 = .ok (.iload 20, 2) := by decide +kernel
theorem dL_law_380 : decode cL_law 380 = .ok (.iadd, 1) := by decide +kernel
theorem dL_law_381 : decode cL_law 381 = .ok (.istore 15, 2) := by decide +kernel
theorem dL_law_383 : decode cL_law 383 = .ok (.iload 16, 2) := by decide +kernel
theorem dL_law_385 : decode cL_law 385 = .ok (.aload_n 1, 1) := by decide +kernel
theorem dL_law_386 : decode cL_law 386 = .ok (.iload 18, 2) := by decide +kernel
theorem dL_law_388 : decode cL_law 388 = .ok (.bipush 8, 2) := by decide +kernel
theorem dL_law_390 : decode cL_law 390 = .ok (.invokevirtual 118, 3) := by decide +kernel
theorem dL_law_393 : decode cL_law 393 = .ok (.aload 6, 2) := by decide +kernel
theorem dL_law_395 : decode cL_law 395 = .ok (.iload 18, 2) := by decide +kernel
theorem dL_law_397 : decode cL_law 397 = .ok (.aaload, 1) := by decide +kernel
theorem dL_law_398 : decode cL_law 398 = .ok (.bipush 8, 2) := by decide +kernel
theorem dL_law_400 : decode cL_law 400 = .ok (.iaload, 1) := by decide +kernel
theorem dL_law_401 : decode cL_law 401 = .ok (.isub, 1) := by decide +kernel
theorem dL_law_402 : decode cL_law 402 = .ok (.iadd, 1) := by decide +kernel
theorem dL_law_403 : decode cL_law 403 = .ok (.istore 16, 2) := by decide +kernel
theorem dL_law_405 : decode cL_law 405 = .ok (.iload 17, 2) := by decide +kernel
theorem dL_law_407 : decode cL_law 407 = .ok (.aload_n 1, 1) := by decide +kernel
theorem dL_law_408 : decode cL_law 408 = .ok (.iload 18, 2) := by decide +kernel
theorem dL_law_410 : decode cL_law 410 = .ok (.iconst 5, 1) := by decide +kernel
theorem dL_law_411 : decode cL_law 411 = .ok (.invokevirtual 118, 3) := by decide +kernel
theorem dL_law_414 : decode cL_law 414 = .ok (.aload_n 1, 1) := by decide +kernel
theorem dL_law_415 : decode cL_law 415 = .ok (.iload 18, 2) := by decide +kernel
theorem dL_law_417 : decode cL_law 417 = .ok (.bipush 6, 2) := by decide +kernel
theorem dL_law_419 : decode cL_law 419 = .ok (.invokevirtual 118, 3) := by decide +kernel
theorem dL_law_422 : decode cL_law 422 = .ok (.imul, 1) := by decide +kernel
theorem dL_law_423 : decode cL_law 423 = .ok (.iadd, 1) := by decide +kernel
theorem dL_law_424 : decode cL_law 424 = .ok (.istore 17, 2) := by decide +kernel
theorem dL_law_426 : decode cL_law 426 = .ok (.iload 20, 2) := by decide +kernel
theorem dL_law_428 : decode cL_law 428 = .ok (.aload_n 1, 1) := by decide +kernel
theorem dL_law_429 : decode cL_law 429 = .ok (.iload 18, 2) := by decide +kernel
theorem dL_law_431 : decode cL_law 431 = .ok (.bipush 9, 2) := by decide +kernel
theorem dL_law_433 : decode cL_law 433 = .ok (.invokevirtual 118, 3) := by decide +kernel
theorem dL_law_436 : decode cL_law 436 = .ok (.if_icmp .ne 52, 3) := by decide +kernel
theorem dL_law_439 : decode cL_law 439 = .ok (.aload_n 1, 1) := by decide +kernel
theorem dL_law_440 : decode cL_law 440 = .ok (.iload 18, 2) := by decide +kernel
theorem dL_law_442 : decode cL_law 442 = .ok (.iconst 4, 1) := by decide +kernel
theorem dL_law_443 : decode cL_law 443 = .ok (.invokevirtual 118, 3) := by decide +kernel
theorem dL_law_446 : decode cL_law 446 = .ok (.aload 6, 2) := by decide +kernel
theorem dL_law_448 : decode cL_law 448 = .ok (.iload 18, 2) := by decide +kernel
theorem dL_law_450 : decode cL_law 450 = .ok (.aaload, 1) := by decide +kernel
theorem dL_law_451 : decode cL_law 451 = .ok (.iconst 4, 1) := by decide +kernel
theorem dL_law_452 : decode cL_law 452 = .ok (.iaload, 1) := by decide +kernel
theorem dL_law_453 : decode cL_law 453 = .ok (.iload 20, 2) := by decide +kernel
theorem dL_law_455 : decode cL_law 455 = .ok (.isub, 1) := by decide +kernel
theorem dL_law_456 : decode cL_law 456 = .ok (.if_icmp .ne 32, 3) := by decide +kernel
theorem dL_law_459 : decode cL_law 459 = .ok (.aload_n 1, 1) := by decide +kernel
theorem dL_law_460 : decode cL_law 460 = .ok (.iload 18, 2) := by decide +kernel
theorem dL_law_462 : decode cL_law 462 = .ok (.iconst 4, 1) := by decide +kernel
theorem dL_law_463 : decode cL_law 463 = .ok (.invokevirtual 118, 3) := by decide +kernel
theorem dL_law_466 : decode cL_law 466 = .ok (.ifCond .lt 22, 3) := by decide +kernel
theorem dL_law_469 : decode cL_law 469 = .ok (.aload_n 1, 1) := by decide +kernel
theorem dL_law_470 : decode cL_law 470 = .ok (.iload 18, 2) := by decide +kernel
theorem dL_law_472 : decode cL_law 472 = .ok (.bipush 8, 2) := by decide +kernel
theorem dL_law_474 : decode cL_law 474 = .ok (.invokevirtual 118, 3) := by decide +kernel
theorem dL_law_477 : decode cL_law 477 = .ok (.aload 6, 2) := by decide +kernel
theorem dL_law_479 : decode cL_law 479 = .ok (.iload 18, 2) := by decide +kernel
theorem dL_law_481 : decode cL_law 481 = .ok (.aaload, 1) := by decide +kernel
theorem dL_law_482 : decode cL_law 482 = .ok (.bipush 8, 2) := by decide +kernel
theorem dL_law_484 : decode cL_law 484 = .ok (.iaload, 1) := by decide +kernel
theorem dL_law_485 : decode cL_law 485 = .ok (.if_icmp .ge 5, 3) := by decide +kernel
theorem dL_law_488 : decode cL_law 488 = .ok (.iconst 0, 1) := by decide +kernel
theorem dL_law_489 : decode cL_law 489 = .ok (.ireturn, 1) := by decide +kernel
theorem dL_law_490 : decode cL_law 490 = .ok (.aload 7, 2) := by decide +kernel
theorem dL_law_492 : decode cL_law 492 = .ok (.iload 18, 2) := by decide +kernel
theorem dL_law_494 : decode cL_law 494 = .ok (.iaload, 1) := by decide +kernel
theorem dL_law_495 : decode cL_law 495 = .ok (.iconst 1, 1) := by decide +kernel
theorem dL_law_496 : decode cL_law 496 = .ok (.if_icmp .le 24, 3) := by decide +kernel
theorem dL_law_499 : decode cL_law 499 = .ok (.iload 20, 2) := by decide +kernel
theorem dL_law_501 : decode cL_law 501 = .ok (.ifCond .ne 87, 3) := by decide +kernel
theorem dL_law_504 : decode cL_law 504 = .ok (.aload_n 1, 1) := by decide +kernel
theorem dL_law_505 : decode cL_law 505 = .ok (.iload 18, 2) := by decide +kernel
theorem dL_law_507 : decode cL_law 507 = .ok (.invokevirtual 121, 3) := by decide +kernel
theorem dL_law_510 : decode cL_law 510 = .ok (.aload 7, 2) := by decide +kernel
theorem dL_law_512 : decode cL_law 512 = .ok (.iload 18, 2) := by decide +kernel
theorem dL_law_514 : decode cL_law 514 = .ok (.iaload, 1) := by decide +kernel
theorem dL_law_515 : decode cL_law 515 = .ok (.iconst 1, 1) := by decide +kernel
theorem dL_law_516 : decode cL_law 516 = .ok (.isub, 1) := by decide +kernel
theorem dL_law_517 : decode cL_law 517 = .ok (.if_icmp .ne 71, 3) := by decide +kernel
theorem dL_law_520 : decode cL_law 520 = .ok (.aload 7, 2) := by decide +kernel
theorem dL_law_522 : decode cL_law 522 = .ok (.iload 18, 2) := by decide +kernel
theorem dL_law_524 : decode cL_law 524 = .ok (.iaload, 1) := by decide +kernel
theorem dL_law_525 : decode cL_law 525 = .ok (.iconst 1, 1) := by decide +kernel
theorem dL_law_526 : decode cL_law 526 = .ok (.if_icmp .ne 7, 3) := by decide +kernel
theorem dL_law_529 : decode cL_law 529 = .ok (.iconst 1, 1) := by decide +kernel
theorem dL_law_530 : decode cL_law 530 = .ok (.goto 4, 3) := by decide +kernel
theorem dL_law_533 : decode cL_law 533 = .ok (.iconst 0, 1) := by decide +kernel
theorem dL_law_534 : decode cL_law 534 = .ok (.iload 20, 2) := by decide +kernel
theorem dL_law_536 : decode cL_law 536 = .ok (.ifCond .le 7, 3) := by decide +kernel
theorem dL_law_539 : decode cL_law 539 = .ok (.iconst 1, 1) := by decide +kernel
theorem dL_law_540 : decode cL_law 540 = .ok (.goto 4, 3) := by decide +kernel
theorem dL_law_543 : decode cL_law 543 = .ok (.iconst 0, 1) := by decide +kernel
theorem dL_law_544 : decode cL_law 544 = .ok (.if_icmp .ne 44, 3) := by decide +kernel
theorem dL_law_547 : decode cL_law 547 = .ok (.aload 8, 2) := by decide +kernel
theorem dL_law_549 : decode cL_law 549 = .ok (.iload 18, 2) := by decide +kernel
theorem dL_law_551 : decode cL_law 551 = .ok (.iaload, 1) := by decide +kernel
theorem dL_law_552 : decode cL_law 552 = .ok (.ifCond .le 19, 3) := by decide +kernel
theorem dL_law_555 : decode cL_law 555 = .ok (.aload_n 1, 1) := by decide +kernel
theorem dL_law_556 : decode cL_law 556 = .ok (.iload 18, 2) := by decide +kernel
theorem dL_law_558 : decode cL_law 558 = .ok (.invokevirtual 124, 3) := by decide +kernel
theorem dL_law_561 : decode cL_law 561 = .ok (.aload 8, 2) := by decide +kernel
theorem dL_law_563 : decode cL_law 563 = .ok (.iload 18, 2) := by decide +kernel
theorem dL_law_565 : decode cL_law 565 = .ok (.iaload, 1) := by decide +kernel
theorem dL_law_566 : decode cL_law 566 = .ok (.iconst 1, 1) := by decide +kernel
theorem dL_law_567 : decode cL_law 567 = .ok (.isub, 1) := by decide +kernel
theorem dL_law_568 : decode cL_law 568 = .ok (.if_icmp .ne 20, 3) := by decide +kernel
theorem dL_law_571 : decode cL_law 571 = .ok (.aload 8, 2) := by decide +kernel
theorem dL_law_573 : decode cL_law 573 = .ok (.iload 18, 2) := by decide +kernel
theorem dL_law_575 : decode cL_law 575 = .ok (.iaload, 1) := by decide +kernel
theorem dL_law_576 : decode cL_law 576 = .ok (.ifCond .ne 14, 3) := by decide +kernel
theorem dL_law_579 : decode cL_law 579 = .ok (.aload_n 1, 1) := by decide +kernel
theorem dL_law_580 : decode cL_law 580 = .ok (.iload 18, 2) := by decide +kernel
theorem dL_law_582 : decode cL_law 582 = .ok (.invokevirtual 124, 3) := by decide +kernel
theorem dL_law_585 : decode cL_law 585 = .ok (.ifCond .eq 5, 3) := by decide +kernel
theorem dL_law_588 : decode cL_law 588 = .ok (.iconst 0, 1) := by decide +kernel
theorem dL_law_589 : decode cL_law 589 = .ok (.ireturn, 1) := by decide +kernel
theorem dL_law_590 : decode cL_law 590 = .ok (.aload 6, 2) := by decide +kernel
theorem dL_law_592 : decode cL_law 592 = .ok (.iload 18, 2) := by decide +kernel
theorem dL_law_594 : decode cL_law 594 = .ok (.aaload, 1) := by decide +kernel
theorem dL_law_595 : decode cL_law 595 = .ok (.iconst 5, 1) := by decide +kernel
theorem dL_law_596 : decode cL_law 596 = .ok (.iaload, 1) := by decide +kernel
theorem dL_law_597 : decode cL_law 597 = .ok (.ifCond .ne 73, 3) := by decide +kernel
theorem dL_law_600 : decode cL_law 600 = .ok (.iload 19, 2) := by decide +kernel
theorem dL_law_602 : decode cL_law 602 = .ok (.aload 6, 2) := by decide +kernel
theorem dL_law_604 : decode cL_law 604 = .ok (.iload 18, 2) := by decide +kernel
theorem dL_law_606 : decode cL_law 606 = .ok (.aaload, 1) := by decide +kernel
theorem dL_law_607 : decode cL_law 607 = .ok (.iconst 0, 1) := by decide +kernel
theorem dL_law_608 : decode cL_law 608 = .ok (.iaload, 1) := by decide +kernel
theorem dL_law_609 : decode cL_law 609 = .ok (.if_icmp .ne 59, 3) := by decide +kernel
theorem dL_law_612 : decode cL_law 612 = .ok (.aload_n 1, 1) := by decide +kernel
theorem dL_law_613 : decode cL_law 613 = .ok (.iload 18, 2) := by decide +kernel
theorem dL_law_615 : decode cL_law 615 = .ok (.iconst 1, 1) := by decide +kernel
theorem dL_law_616 : decode cL_law 616 = .ok (.invokevirtual 118, 3) := by decide +kernel
theorem dL_law_619 : decode cL_law 619 = .ok (.aload 6, 2) := by decide +kernel
theorem dL_law_621 : decode cL_law 621 = .ok (.iload 18, 2) := by decide +kernel
theorem dL_law_623 : decode cL_law 623 = .ok (.aaload, 1) := by decide +kernel
theorem dL_law_624 : decode cL_law 624 = .ok (.iconst 1, 1) := by decide +kernel
theorem dL_law_625 : decode cL_law 625 = .ok (.iaload, 1) := by decide +kernel
theorem dL_law_626 : decode cL_law 626 = .ok (.if_icmp .ne 42, 3) := by decide +kernel
theorem dL_law_629 : decode cL_law 629 = .ok (.aload_n 1, 1) := by decide +kernel
theorem dL_law_630 : decode cL_law 630 = .ok (.iload 18, 2) := by decide +kernel
theorem dL_law_632 : decode cL_law 632 = .ok (.iconst 2, 1) := by decide +kernel
theorem dL_law_633 : decode cL_law 633 = .ok (.invokevirtual 118, 3) := by decide +kernel
theorem dL_law_636 : decode cL_law 636 = .ok (.aload 6, 2) := by decide +kernel
theorem dL_law_638 : decode cL_law 638 = .ok (.iload 18, 2) := by decide +kernel
theorem dL_law_640 : decode cL_law 640 = .ok (.aaload, 1) := by decide +kernel
theorem dL_law_641 : decode cL_law 641 = .ok (.iconst 2, 1) := by decide +kernel
theorem dL_law_642 : decode cL_law 642 = .ok (.iaload, 1) := by decide +kernel
theorem dL_law_643 : decode cL_law 643 = .ok (.if_icmp .ne 25, 3) := by decide +kernel
theorem dL_law_646 : decode cL_law 646 = .ok (.aload_n 1, 1) := by decide +kernel
theorem dL_law_647 : decode cL_law 647 = .ok (.iload 18, 2) := by decide +kernel
theorem dL_law_649 : decode cL_law 649 = .ok (.iconst 3, 1) := by decide +kernel
theorem dL_law_650 : decode cL_law 650 = .ok (.invokevirtual 118, 3) := by decide +kernel
theorem dL_law_653 : decode cL_law 653 = .ok (.aload 6, 2) := by decide +kernel
theorem dL_law_655 : decode cL_law 655 = .ok (.iload 18, 2) := by decide +kernel
theorem dL_law_657 : decode cL_law 657 = .ok (.aaload, 1) := by decide +kernel
theorem dL_law_658 : decode cL_law 658 = .ok (.iconst 3, 1) := by decide +kernel
theorem dL_law_659 : decode cL_law 659 = .ok (.iaload, 1) := by decide +kernel
theorem dL_law_660 : decode cL_law 660 = .ok (.if_icmp .ne 8, 3) := by decide +kernel
theorem dL_law_663 : decode cL_law 663 = .ok (.iload 20, 2) := by decide +kernel
theorem dL_law_665 : decode cL_law 665 = .ok (.ifCond .eq 298, 3) := by decide +kernel
theorem dL_law_668 : decode cL_law 668 = .ok (.iconst 0, 1) := by decide +kernel
theorem dL_law_669 : decode cL_law 669 = .ok (.ireturn, 1) := by decide +kernel
theorem dL_law_670 : decode cL_law 670 = .ok (.aload 6, 2) := by decide +kernel
theorem dL_law_672 : decode cL_law 672 = .ok (.iload 18, 2) := by decide +kernel
theorem dL_law_674 : decode cL_law 674 = .ok (.aaload, 1) := by decide +kernel
theorem dL_law_675 : decode cL_law 675 = .ok (.iconst 1, 1) := by decide +kernel
theorem dL_law_676 : decode cL_law 676 = .ok (.iaload, 1) := by decide +kernel
theorem dL_law_677 : decode cL_law 677 = .ok (.aload 6, 2) := by decide +kernel
theorem dL_law_679 : decode cL_law 679 = .ok (.iload 18, 2) := by decide +kernel
theorem dL_law_681 : decode cL_law 681 = .ok (.aaload, 1) := by decide +kernel
theorem dL_law_682 : decode cL_law 682 = .ok (.bipush 6, 2) := by decide +kernel
theorem dL_law_684 : decode cL_law 684 = .ok (.iaload, 1) := by decide +kernel
theorem dL_law_685 : decode cL_law 685 = .ok (.iadd, 1) := by decide +kernel
theorem dL_law_686 : decode cL_law 686 = .ok (.istore 21, 2) := by decide +kernel
theorem dL_law_688 : decode cL_law 688 = .ok (.aload 6, 2) := by decide +kernel
theorem dL_law_690 : decode cL_law 690 = .ok (.iload 18, 2) := by decide +kernel
theorem dL_law_692 : decode cL_law 692 = .ok (.aaload, 1) := by decide +kernel
theorem dL_law_693 : decode cL_law 693 = .ok (.iconst 0, 1) := by decide +kernel
theorem dL_law_694 : decode cL_law 694 = .ok (.iaload, 1) := by decide +kernel
theorem dL_law_695 : decode cL_law 695 = .ok (.iload 21, 2) := by decide +kernel
theorem dL_law_697 : decode cL_law 697 = .ok (.sipush 900, 3) := by decide +kernel
theorem dL_law_700 : decode cL_law 700 = .ok (.idiv, 1) := by decide +kernel
theorem dL_law_701 : decode cL_law 701 = .ok (.iadd, 1) := by decide +kernel
theorem dL_law_702 : decode cL_law 702 = .ok (.sipush 720, 3) := by decide +kernel
theorem dL_law_705 : decode cL_law 705 = .ok (.irem, 1) := by decide +kernel
theorem dL_law_706 : decode cL_law 706 = .ok (.istore 22, 2) := by decide +kernel
theorem dL_law_708 : decode cL_law 708 = .ok (.iload 19, 2) := by decide +kernel
theorem dL_law_710 : decode cL_law 710 = .ok (.iload 22, 2) := by decide +kernel
theorem dL_law_712 : decode cL_law 712 = .ok (.if_icmp .ne 99, 3) := by decide +kernel
theorem dL_law_715 : decode cL_law 715 = .ok (.aload_n 1, 1) := by decide +kernel
theorem dL_law_716 : decode cL_law 716 = .ok (.iload 18, 2) := by decide +kernel
theorem dL_law_718 : decode cL_law 718 = .ok (.iconst 1, 1) := by decide +kernel
theorem dL_law_719 : decode cL_law 719 = .ok (.invokevirtual 118, 3) := by decide +kernel
theorem dL_law_722 : decode cL_law 722 = .ok (.iload 21, 2) := by decide +kernel
theorem dL_law_724 : decode cL_law 724 = .ok (.sipush 900, 3) := by decide +kernel
theorem dL_law_727 : decode cL_law 727 = .ok (.irem, 1) := by decide +kernel
theorem dL_law_728 : decode cL_law 728 = .ok (.if_icmp .ne 83, 3) := by decide +kernel
theorem dL_law_731 : decode cL_law 731 = .ok (.aload_n 1, 1) := by decide +kernel
theorem dL_law_732 : decode cL_law 732 = .ok (.iload 18, 2) := by decide +kernel
theorem dL_law_734 : decode cL_law 734 = .ok (.iconst 2, 1) := by decide +kernel
theorem dL_law_735 : decode cL_law 735 = .ok (.invokevirtual 118, 3) := by decide +kernel
theorem dL_law_738 : decode cL_law 738 = .ok (.aload 6, 2) := by decide +kernel
theorem dL_law_740 : decode cL_law 740 = .ok (.iload 18, 2) := by decide +kernel
theorem dL_law_742 : decode cL_law 742 = .ok (.aaload, 1) := by decide +kernel
theorem dL_law_743 : decode cL_law 743 = .ok (.iconst 2, 1) := by decide +kernel
theorem dL_law_744 : decode cL_law 744 = .ok (.iaload, 1) := by decide +kernel
theorem dL_law_745 : decode cL_law 745 = .ok (.iconst 1, 1) := by decide +kernel
theorem dL_law_746 : decode cL_law 746 = .ok (.isub, 1) := by decide +kernel
theorem dL_law_747 : decode cL_law 747 = .ok (.if_icmp .ne 64, 3) := by decide +kernel
theorem dL_law_750 : decode cL_law 750 = .ok (.aload_n 1, 1) := by decide +kernel
theorem dL_law_751 : decode cL_law 751 = .ok (.iload 18, 2) := by decide +kernel
theorem dL_law_753 : decode cL_law 753 = .ok (.iconst 3, 1) := by decide +kernel
theorem dL_law_754 : decode cL_law 754 = .ok (.invokevirtual 118, 3) := by decide +kernel
theorem dL_law_757 : decode cL_law 757 = .ok (.iconst 0, 1) := by decide +kernel
theorem dL_law_758 : decode cL_law 758 = .ok (.aload 6, 2) := by decide +kernel
theorem dL_law_760 : decode cL_law 760 = .ok (.iload 18, 2) := by decide +kernel
theorem dL_law_762 : decode cL_law 762 = .ok (.aaload, 1) := by decide +kernel
theorem dL_law_763 : decode cL_law 763 = .ok (.iconst 3, 1) := by decide +kernel
theorem dL_law_764 : decode cL_law 764 = .ok (.iaload, 1) := by decide +kernel
theorem dL_law_765 : decode cL_law 765 = .ok (.iload 9, 2) := by decide +kernel
theorem dL_law_767 : decode cL_law 767 = .ok (.bipush 10, 2) := by decide +kernel
theorem dL_law_769 : decode cL_law 769 = .ok (.irem, 1) := by decide +kernel
theorem dL_law_770 : decode cL_law 770 = .ok (.ifCond .ne 7, 3) := by decide +kernel
theorem dL_law_773 : decode cL_law 773 = .ok (.iconst 1, 1) := by decide +kernel
theorem dL_law_774 : decode cL_law 774 = .ok (.goto 4, 3) := by decide +kernel
theorem dL_law_777 : decode cL_law 777 = .ok (.iconst 0, 1) := by decide +kernel
theorem dL_law_778 : decode cL_law 778 = .ok (.isub, 1) := by decide +kernel
theorem dL_law_779 : decode cL_law 779 = .ok (.invokestatic 130, 3) := by decide +kernel
theorem dL_law_782 : decode cL_law 782 = .ok (.if_icmp .ne 29, 3) := by decide +kernel
theorem dL_law_785 : decode cL_law 785 = .ok (.aload_n 1, 1) := by decide +kernel
theorem dL_law_786 : decode cL_law 786 = .ok (.iload 18, 2) := by decide +kernel
theorem dL_law_788 : decode cL_law 788 = .ok (.iconst 5, 1) := by decide +kernel
theorem dL_law_789 : decode cL_law 789 = .ok (.invokevirtual 118, 3) := by decide +kernel
theorem dL_law_792 : decode cL_law 792 = .ok (.aload 6, 2) := by decide +kernel
theorem dL_law_794 : decode cL_law 794 = .ok (.iload 18, 2) := by decide +kernel
theorem dL_law_796 : decode cL_law 796 = .ok (.aaload, 1) := by decide +kernel
theorem dL_law_797 : decode cL_law 797 = .ok (.iconst 2, 1) := by decide +kernel
theorem dL_law_798 : decode cL_law 798 = .ok (.iaload, 1) := by decide +kernel
theorem dL_law_799 : decode cL_law 799 = .ok (.iconst 1, 1) := by decide +kernel
theorem dL_law_800 : decode cL_law 800 = .ok (.if_icmp .le 7, 3) := by decide +kernel
theorem dL_law_803 : decode cL_law 803 = .ok (.iconst 1, 1) := by decide +kernel
theorem dL_law_804 : decode cL_law 804 = .ok (.goto 4, 3) := by decide +kernel
theorem dL_law_807 : decode cL_law 807 = .ok (.iconst 0, 1) := by decide +kernel
theorem dL_law_808 : decode cL_law 808 = .ok (.if_icmp .eq 5, 3) := by decide +kernel
theorem dL_law_811 : decode cL_law 811 = .ok (.iconst 0, 1) := by decide +kernel
theorem dL_law_812 : decode cL_law 812 = .ok (.ireturn, 1) := by decide +kernel
theorem dL_law_813 : decode cL_law 813 = .ok (.iconst 0, 1) := by decide +kernel
theorem dL_law_814 : decode cL_law 814 = .ok (.istore 23, 2) := by decide +kernel
theorem dL_law_816 : decode cL_law 816 = .ok (.iconst 1, 1) := by decide +kernel
theorem dL_law_817 : decode cL_law 817 = .ok (.istore 24, 2) := by decide +kernel
theorem dL_law_819 : decode cL_law 819 = .ok (.iload 24, 2) := by decide +kernel
theorem dL_law_821 : decode cL_law 821 = .ok (.iload 21, 2) := by decide +kernel
theorem dL_law_823 : decode cL_law 823 = .ok (.sipush 900, 3) := by decide +kernel
theorem dL_law_826 : decode cL_law 826 = .ok (.idiv, 1) := by decide +kernel
theorem dL_law_827 : decode cL_law 827 = .ok (.if_icmp .gt 80, 3) := by decide +kernel
theorem dL_law_830 : decode cL_law 830 = .ok (.aload 6, 2) := by decide +kernel
theorem dL_law_832 : decode cL_law 832 = .ok (.iload 18, 2) := by decide +kernel
theorem dL_law_834 : decode cL_law 834 = .ok (.aaload, 1) := by decide +kernel
theorem dL_law_835 : decode cL_law 835 = .ok (.iconst 0, 1) := by decide +kernel
theorem dL_law_836 : decode cL_law 836 = .ok (.iaload, 1) := by decide +kernel
theorem dL_law_837 : decode cL_law 837 = .ok (.iload 24, 2) := by decide +kernel
theorem dL_law_839 : decode cL_law 839 = .ok (.iadd, 1) := by decide +kernel
theorem dL_law_840 : decode cL_law 840 = .ok (.sipush 720, 3) := by decide +kernel
theorem dL_law_843 : decode cL_law 843 = .ok (.irem, 1) := by decide +kernel
theorem dL_law_844 : decode cL_law 844 = .ok (.istore 25, 2) := by decide +kernel
theorem dL_law_846 : decode cL_law 846 = .ok (.iload 25, 2) := by decide +kernel
theorem dL_law_848 : decode cL_law 848 = .ok (.bipush 30, 2) := by decide +kernel
theorem dL_law_850 : decode cL_law 850 = .ok (.irem, 1) := by decide +kernel
theorem dL_law_851 : decode cL_law 851 = .ok (.ifCond .ne 50, 3) := by decide +kernel
theorem dL_law_854 : decode cL_law 854 = .ok (.aload_n 2, 1) := by decide +kernel
theorem dL_law_855 : decode cL_law 855 = .ok (.getfield 9, 3) := by decide +kernel
theorem dL_law_858 : decode cL_law 858 = .ok (.iload 18, 2) := by decide +kernel
theorem dL_law_860 : decode cL_law 860 = .ok (.aaload, 1) := by decide +kernel
theorem dL_law_861 : decode cL_law 861 = .ok (.iload 25, 2) := by decide +kernel
theorem dL_law_863 : decode cL_law 863 = .ok (.invokevirtual 135, 3) := by decide +kernel
theorem dL_law_866 : decode cL_law 866 = .ok (.ifCond .ne 35, 3) := by decide +kernel
theorem dL_law_869 : decode cL_law 869 = .ok (.iload 23, 2) := by decide +kernel
theorem dL_law_871 : decode cL_law 871 = .ok (.iload 25, 2) := by decide +kernel
theorem dL_law_873 : decode cL_law 873 = .ok (.ifCond .ne 8, 3) := by decide +kernel
theorem dL_law_876 : decode cL_law 876 = .ok (.bipush 12, 2) := by decide +kernel
theorem dL_law_878 : decode cL_law 878 = .ok (.goto 20, 3) := by decide +kernel
theorem dL_law_881 : decode cL_law 881 = .ok (.iload 25, 2) := by decide +kernel
theorem dL_law_883 : decode cL_law 883 = .ok (.bipush 60, 2) := by decide +kernel
theorem dL_law_885 : decode cL_law 885 = .ok (.irem, 1) := by decide +kernel
theorem dL_law_886 : decode cL_law 886 = .ok (.ifCond .ne 11, 3) := by decide +kernel
theorem dL_law_889 : decode cL_law 889 = .ok (.iload 25, 2) := by decide +kernel
theorem dL_law_891 : decode cL_law 891 = .ok (.bipush 60, 2) := by decide +kernel
theorem dL_law_893 : decode cL_law 893 = .ok (.idiv, 1) := by decide +kernel
theorem dL_law_894 : decode cL_law 894 = .ok (.goto 4, 3) := by decide +kernel
theorem dL_law_897 : decode cL_law 897 = .ok (.iconst 1, 1) := by decide +kernel
theorem dL_law_898 : decode cL_law 898 = .ok (.iadd, 1) := by decide +kernel
theorem dL_law_899 : decode cL_law 899 = .ok (.istore 23, 2) := by decide +kernel
theorem dL_law_901 : decode cL_law 901 = .ok (.iinc 24 1, 3) := by decide +kernel
theorem dL_law_904 : decode cL_law 904 = .ok (.goto (-85), 3) := by decide +kernel
theorem dL_law_907 : decode cL_law 907 = .ok (.iload 20, 2) := by decide +kernel
theorem dL_law_909 : decode cL_law 909 = .ok (.aload_n 1, 1) := by decide +kernel
theorem dL_law_910 : decode cL_law 910 = .ok (.iload 18, 2) := by decide +kernel
theorem dL_law_912 : decode cL_law 912 = .ok (.bipush 8, 2) := by decide +kernel
theorem dL_law_914 : decode cL_law 914 = .ok (.invokevirtual 118, 3) := by decide +kernel
theorem dL_law_917 : decode cL_law 917 = .ok (.iadd, 1) := by decide +kernel
theorem dL_law_918 : decode cL_law 918 = .ok (.aload 6, 2) := by decide +kernel
theorem dL_law_920 : decode cL_law 920 = .ok (.iload 18, 2) := by decide +kernel
theorem dL_law_922 : decode cL_law 922 = .ok (.aaload, 1) := by decide +kernel
theorem dL_law_923 : decode cL_law 923 = .ok (.bipush 8, 2) := by decide +kernel
theorem dL_law_925 : decode cL_law 925 = .ok (.iaload, 1) := by decide +kernel
theorem dL_law_926 : decode cL_law 926 = .ok (.isub, 1) := by decide +kernel
theorem dL_law_927 : decode cL_law 927 = .ok (.iload 23, 2) := by decide +kernel
theorem dL_law_929 : decode cL_law 929 = .ok (.if_icmp .ne 32, 3) := by decide +kernel
theorem dL_law_932 : decode cL_law 932 = .ok (.aload_n 1, 1) := by decide +kernel
theorem dL_law_933 : decode cL_law 933 = .ok (.iload 18, 2) := by decide +kernel
theorem dL_law_935 : decode cL_law 935 = .ok (.bipush 8, 2) := by decide +kernel
theorem dL_law_937 : decode cL_law 937 = .ok (.invokevirtual 118, 3) := by decide +kernel
theorem dL_law_940 : decode cL_law 940 = .ok (.aload 6, 2) := by decide +kernel
theorem dL_law_942 : decode cL_law 942 = .ok (.iload 18, 2) := by decide +kernel
theorem dL_law_944 : decode cL_law 944 = .ok (.aaload, 1) := by decide +kernel
theorem dL_law_945 : decode cL_law 945 = .ok (.bipush 8, 2) := by decide +kernel
theorem dL_law_947 : decode cL_law 947 = .ok (.iaload, 1) := by decide +kernel
theorem dL_law_948 : decode cL_law 948 = .ok (.if_icmp .le 15, 3) := by decide +kernel
theorem dL_law_951 : decode cL_law 951 = .ok (.aload_n 1, 1) := by decide +kernel
theorem dL_law_952 : decode cL_law 952 = .ok (.iload 18, 2) := by decide +kernel
theorem dL_law_954 : decode cL_law 954 = .ok (.iconst 4, 1) := by decide +kernel
theorem dL_law_955 : decode cL_law 955 = .ok (.invokevirtual 118, 3) := by decide +kernel
theorem dL_law_958 : decode cL_law 958 = .ok (.ifCond .eq 5, 3) := by decide +kernel
theorem dL_law_961 : decode cL_law 961 = .ok (.iconst 0, 1) := by decide +kernel
theorem dL_law_962 : decode cL_law 962 = .ok (.ireturn, 1) := by decide +kernel
theorem dL_law_963 : decode cL_law 963 = .ok (.iinc 18 1, 3) := by decide +kernel
theorem dL_law_966 : decode cL_law 966 = .ok (.goto (-625), 3) := by decide +kernel
theorem dL_law_969 : decode cL_law 969 = .ok (.iload 15, 2) := by decide +kernel
theorem dL_law_971 : decode cL_law 971 = .ok (.iload 14, 2) := by decide +kernel
theorem dL_law_973 : decode cL_law 973 = .ok (.if_icmp .ne 34, 3) := by decide +kernel
theorem dL_law_976 : decode cL_law 976 = .ok (.iload 16, 2) := by decide +kernel
theorem dL_law_978 : decode cL_law 978 = .ok (.iload 11, 2) := by decide +kernel
theorem dL_law_980 : decode cL_law 980 = .ok (.if_icmp .ne 27, 3) := by decide +kernel
theorem dL_law_983 : decode cL_law 983 = .ok (.aload_n 1, 1) := by decide +kernel
theorem dL_law_984 : decode cL_law 984 = .ok (.invokevirtual 139, 3) := by decide +kernel
theorem dL_law_987 : decode cL_law 987 = .ok (.iload 12, 2) := by decide +kernel
theorem dL_law_989 : decode cL_law 989 = .ok (.ifCond .ne 7, 3) := by decide +kernel
theorem dL_law_992 : decode cL_law 992 = .ok (.dconst 0, 1) := by decide +kernel
theorem dL_law_993 : decode cL_law 993 = .ok (.goto 10, 3) := by decide +kernel
theorem dL_law_996 : decode cL_law 996 = .ok (.iload 17, 2) := by decide +kernel
theorem dL_law_998 : decode cL_law 998 = .ok (.i2d, 1) := by decide +kernel
theorem dL_law_999 : decode cL_law 999 = .ok (.iload 12, 2) := by decide +kernel
theorem dL_law_1001 : decode cL_law 1001 = .ok (.i2d, 1) := by decide +kernel
theorem dL_law_1002 : decode cL_law 1002 = .ok (.ddiv, 1) := by decide +kernel
theorem dL_law_1003 : decode cL_law 1003 = .ok (.dcmp .l, 1) := by decide +kernel
theorem dL_law_1004 : decode cL_law 1004 = .ok (.ifCond .eq 5, 3) := by decide +kernel
theorem dL_law_1007 : decode cL_law 1007 = .ok (.iconst 0, 1) := by decide +kernel
theorem dL_law_1008 : decode cL_law 1008 = .ok (.ireturn, 1) := by decide +kernel
theorem dL_law_1009 : decode cL_law 1009 = .ok (.iinc 3 1, 3) := by decide +kernel
theorem dL_law_1012 : decode cL_law 1012 = .ok (.goto (-990), 3) := by decide +kernel
theorem dL_law_1015 : decode cL_law 1015 = .ok (.aload_n 2, 1) := by decide +kernel
theorem dL_law_1016 : decode cL_law 1016 = .ok (.aload_n 1, 1) := by decide +kernel
theorem dL_law_1017 : decode cL_law 1017 = .ok (.invokevirtual 143, 3) := by decide +kernel
theorem dL_law_1020 : decode cL_law 1020 = .ok (.ireturn, 1) := by decide +kernel
