/-! ===== decode rows of the law ===== -/
theorem dL_law_0 : decode cL_law 0 = .ok (.new 8, 3) := by decide +kernel
theorem dL_law_3 : decode cL_law 3 = .ok (.dup, 1) := by decide +kernel
theorem dL_law_4 : decode cL_law 4 = .ok (.invokespecial 73, 3) := by decide +kernel
theorem dL_law_7 : decode cL_law 7 = .ok (.astore_n 1, 1) := by decide +kernel
theorem dL_law_8 : decode cL_law 8 = .ok (.iconst 5, 1) := by decide +kernel
theorem dL_law_9 : decode cL_law 9 = .ok (.newarray .int, 2) := by decide +kernel
theorem dL_law_11 : decode cL_law 11 = .ok (.astore_n 2, 1) := by decide +kernel
theorem dL_law_12 : decode cL_law 12 = .ok (.iconst 5, 1) := by decide +kernel
theorem dL_law_13 : decode cL_law 13 = .ok (.newarray .int, 2) := by decide +kernel
theorem dL_law_15 : decode cL_law 15 = .ok (.astore_n 3, 1) := by decide +kernel
theorem dL_law_16 : decode cL_law 16 = .ok (.iconst 5, 1) := by decide +kernel
theorem dL_law_17 : decode cL_law 17 = .ok (.newarray .int, 2) := by decide +kernel
theorem dL_law_19 : decode cL_law 19 = .ok (.astore 4, 2) := by decide +kernel
theorem dL_law_21 : decode cL_law 21 = .ok (.iconst 4, 1) := by decide +kernel
theorem dL_law_22 : decode cL_law 22 = .ok (.newarray .int, 2) := by decide +kernel
theorem dL_law_24 : decode cL_law 24 = .ok (.astore 5, 2) := by decide +kernel
theorem dL_law_26 : decode cL_law 26 = .ok (.iconst 4, 1) := by decide +kernel
theorem dL_law_27 : decode cL_law 27 = .ok (.newarray .int, 2) := by decide +kernel
theorem dL_law_29 : decode cL_law 29 = .ok (.astore 6, 2) := by decide +kernel
theorem dL_law_31 : decode cL_law 31 = .ok (.iconst 4, 1) := by decide +kernel
theorem dL_law_32 : decode cL_law 32 = .ok (.newarray .int, 2) := by decide +kernel
theorem dL_law_34 : decode cL_law 34 = .ok (.astore 7, 2) := by decide +kernel
theorem dL_law_36 : decode cL_law 36 = .ok (.iconst 4, 1) := by decide +kernel
theorem dL_law_37 : decode cL_law 37 = .ok (.newarray .int, 2) := by decide +kernel
theorem dL_law_39 : decode cL_law 39 = .ok (.astore 8, 2) := by decide +kernel
theorem dL_law_41 : decode cL_law 41 = .ok (.iconst 4, 1) := by decide +kernel
theorem dL_law_42 : decode cL_law 42 = .ok (.newarray .int, 2) := by decide +kernel
theorem dL_law_44 : decode cL_law 44 = .ok (.astore 9, 2) := by decide +kernel
theorem dL_law_46 : decode cL_law 46 = .ok (.iconst 0, 1) := by decide +kernel
theorem dL_law_47 : decode cL_law 47 = .ok (.istore 10, 2) := by decide +kernel
theorem dL_law_49 : decode cL_law 49 = .ok (.iconst 0, 1) := by decide +kernel
theorem dL_law_50 : decode cL_law 50 = .ok (.istore 11, 2) := by decide +kernel
theorem dL_law_52 : decode cL_law 52 = .ok (.iconst 0, 1) := by decide +kernel
theorem dL_law_53 : decode cL_law 53 = .ok (.istore 12, 2) := by decide +kernel
theorem dL_law_55 : decode cL_law 55 = .ok (.aload_n 1, 1) := by decide +kernel
theorem dL_law_56 : decode cL_law 56 = .ok (.invokevirtual 74, 3) := by decide +kernel
theorem dL_law_59 : decode cL_law 59 = .ok (.ifCond .ne 7, 3) := by decide +kernel
theorem dL_law_62 : decode cL_law 62 = .ok (.iconst 1, 1) := by decide +kernel
theorem dL_law_63 : decode cL_law 63 = .ok (.goto 4, 3) := by decide +kernel
theorem dL_law_66 : decode cL_law 66 = .ok (.iconst 0, 1) := by decide +kernel
theorem dL_law_67 : decode cL_law 67 = .ok (.istore 13, 2) := by decide +kernel
theorem dL_law_69 : decode cL_law 69 = .ok (.aload_n 0, 1) := by decide +kernel
theorem dL_law_70 : decode cL_law 70 = .ok (.arraylength, 1) := by decide +kernel
theorem dL_law_71 : decode cL_law 71 = .ok (.bipush 40, 2) := by decide +kernel
theorem dL_law_73 : decode cL_law 73 = .ok (.if_icmp .ge 9, 3) := by decide +kernel
theorem dL_law_76 : decode cL_law 76 = .ok (.sipush 170, 3) := by decide +kernel
theorem dL_law_79 : decode cL_law 79 = .ok (.goto 20, 3) := by decide +kernel
theorem dL_law_82 : decode cL_law 82 = .ok (.aload_n 0, 1) := by decide +kernel
theorem dL_law_83 : decode cL_law 83 = .ok (.arraylength, 1) := by decide +kernel
theorem dL_law_84 : decode cL_law 84 = .ok (.bipush 80, 2) := by decide +kernel
theorem dL_law_86 : decode cL_law 86 = .ok (.if_icmp .ge 10, 3) := by decide +kernel
theorem dL_law_89 : decode cL_law 89 = .ok (.iconst 3, 1) := by decide +kernel
theorem dL_law_90 : decode cL_law 90 = .ok (.aload_n 0, 1) := by decide +kernel
theorem dL_law_91 : decode cL_law 91 = .ok (.arraylength, 1) := by decide +kernel
theorem dL_law_92 : decode cL_law 92 = .ok (.imul, 1) := by decide +kernel
theorem dL_law_93 : decode cL_law 93 = .ok (.goto 6, 3) := by decide +kernel
theorem dL_law_96 : decode cL_law 96 = .ok (.sipush 280, 3) := by decide +kernel
theorem dL_law_99 : decode cL_law 99 = .ok (.istore 14, 2) := by decide +kernel
theorem dL_law_101 : decode cL_law 101 = .ok (.iconst 0, 1) := by decide +kernel
theorem dL_law_102 : decode cL_law 102 = .ok (.istore 15, 2) := by decide +kernel
theorem dL_law_104 : decode cL_law 104 = .ok (.iload 15, 2) := by decide +kernel
theorem dL_law_106 : decode cL_law 106 = .ok (.iload 14, 2) := by decide +kernel
theorem dL_law_108 : decode cL_law 108 = .ok (.if_icmp .ge 1614, 3) := by decide +kernel
theorem dL_law_111 : decode cL_law 111 = .ok (.iload 13, 2) := by decide +kernel
theorem dL_law_113 : decode cL_law 113 = .ok (.ifCond .eq 1609, 3) := by decide +kernel
theorem dL_law_116 : decode cL_law 116 = .ok (.iload 15, 2) := by decide +kernel
theorem dL_law_118 : decode cL_law 118 = .ok (.aload_n 0, 1) := by decide +kernel
theorem dL_law_119 : decode cL_law 119 = .ok (.arraylength, 1) := by decide +kernel
theorem dL_law_120 : decode cL_law 120 = .ok (.if_icmp .ge 10, 3) := by decide +kernel
theorem dL_law_123 : decode cL_law 123 = .ok (.aload_n 0, 1) := by decide +kernel
theorem dL_law_124 : decode cL_law 124 = .ok (.iload 15, 2) := by decide +kernel
theorem dL_law_126 : decode cL_law 126 = .ok (.iaload, 1) := by decide +kernel
theorem dL_law_127 : decode cL_law 127 = .ok (.goto 21, 3) := by decide +kernel
theorem dL_law_130 : decode cL_law 130 = .ok (.ldc 78, 2) := by decide +kernel
theorem dL_law_132 : decode cL_law 132 = .ok (.iload 15, 2) := by decide +kernel
theorem dL_law_134 : decode cL_law 134 = .ok (.imul, 1) := by decide +kernel
theorem dL_law_135 : decode cL_law 135 = .ok (.iload 15, 2) := by decide +kernel
theorem dL_law_137 : decode cL_law 137 = .ok (.imul, 1) := by decide +kernel
theorem dL_law_138 : decode cL_law 138 = .ok (.ldc 79, 2) := by decide +kernel
theorem dL_law_140 : decode cL_law 140 = .ok (.iload 15, 2) := by decide +kernel
theorem dL_law_142 : decode cL_law 142 = .ok (.imul, 1) := by decide +kernel
theorem dL_law_143 : decode cL_law 143 = .ok (.iadd, 1) := by decide +kernel
theorem dL_law_144 : decode cL_law 144 = .ok (.sipush 159, 3) := by decide +kernel
theorem dL_law_147 : decode cL_law 147 = .ok (.iadd, 1) := by decide +kernel
theorem dL_law_148 : decode cL_law 148 = .ok (.istore 16, 2) := by decide +kernel
theorem dL_law_150 : decode cL_law 150 = .ok (.iload 16, 2) := by decide +kernel
theorem dL_law_152 : decode cL_law 152 = .ok (.iconst 4, 1) := by decide +kernel
theorem dL_law_153 : decode cL_law 153 = .ok (.ishr, 1) := by decide +kernel
theorem dL_law_154 : decode cL_law 154 = .ok (.ldc 80, 2) := by decide +kernel
theorem dL_law_156 : decode cL_law 156 = .ok (.iand, 1) := by decide +kernel
theorem dL_law_157 : decode cL_law 157 = .ok (.istore 17, 2) := by decide +kernel
theorem dL_law_159 : decode cL_law 159 = .ok (.iload 15, 2) := by decide +kernel
theorem dL_law_161 : decode cL_law 161 = .ok (.iconst 2, 1) := by decide +kernel
theorem dL_law_162 : decode cL_law 162 = .ok (.if_icmp .ge 7, 3) := by decide +kernel
theorem dL_law_165 : decode cL_law 165 = .ok (.iconst 0, 1) := by decide +kernel
theorem dL_law_166 : decode cL_law 166 = .ok (.goto 19, 3) := by decide +kernel
theorem dL_law_169 : decode cL_law 169 = .ok (.iload 15, 2) := by decide +kernel
theorem dL_law_171 : decode cL_law 171 = .ok (.iconst 2, 1) := by decide +kernel
theorem dL_law_172 : decode cL_law 172 = .ok (.if_icmp .ne 8, 3) := by decide +kernel
theorem dL_law_175 : decode cL_law 175 = .ok (.bipush 9, 2) := by decide +kernel
theorem dL_law_177 : decode cL_law 177 = .ok (.goto 8, 3) := by decide +kernel
theorem dL_law_180 : decode cL_law 180 = .ok (.iload 16, 2) := by decide +kernel
theorem dL_law_182 : decode cL_law 182 = .ok (.bipush 15, 2) := by decide +kernel
theorem dL_law_184 : decode cL_law 184 = .ok (.iand, 1) := by decide +kernel
theorem dL_law_185 : decode cL_law 185 = .ok (.istore 18, 2) := by decide +kernel
theorem dL_law_187 : decode cL_law 187 = .ok (.iload 10, 2) := by decide +kernel
theorem dL_law_189 : decode cL_law 189 = .ok (.ifCond .ne 7, 3) := by decide +kernel
theorem dL_law_192 : decode cL_law 192 = .ok (.iconst 0, 1) := by decide +kernel
theorem dL_law_193 : decode cL_law 193 = .ok (.goto 8, 3) := by decide +kernel
theorem dL_law_196 : decode cL_law 196 = .ok (.iload 17, 2) := by decide +kernel
theorem dL_law_198 : decode cL_law 198 = .ok (.iload 10, 2) := by decide +kernel
theorem dL_law_200 : decode cL_law 200 = .ok (.irem, 1) := by decide +kernel
theorem dL_law_201 : decode cL_law 201 = .ok (.istore 19, 2) := by decide +kernel
theorem dL_law_203 : decode cL_law 203 = .ok (.iload 11, 2) := by decide +kernel
theorem dL_law_205 : decode cL_law 205 = .ok (.ifCond .ne 7, 3) := by decide +kernel
theorem dL_law_208 : decode cL_law 208 = .ok (.iconst 0, 1) := by decide +kernel
theorem dL_law_209 : decode cL_law 209 = .ok (.goto 10, 3) := by decide +kernel
theorem dL_law_212 : decode cL_law 212 = .ok (.iload 17, 2) := by decide +kernel
theorem dL_law_214 : decode cL_law 214 = .ok (.iconst 2, 1) := by decide +kernel
theorem dL_law_215 : decode cL_law 215 = .ok (.ishr, 1) := by decide +kernel
theorem dL_law_216 : decode cL_law 216 = .ok (.iload 11, 2) := by decide +kernel
theorem dL_law_218 : decode cL_law 218 = .ok (.irem, 1) := by decide +kernel
theorem dL_law_219 : decode cL_law 219 = .ok (.istore 20, 2) := by decide +kernel
theorem dL_law_221 : decode cL_law 221 = .ok (.iload 18, 2) := by decide +kernel
theorem dL_law_223 : decode cL_law 223 = .ok (.ifCond .ne 110, 3) := by decide +kernel
theorem dL_law_226 : decode cL_law 226 = .ok (.iload 10, 2) := by decide +kernel
theorem dL_law_228 : decode cL_law 228 = .ok (.iconst 5, 1) := by decide +kernel
theorem dL_law_229 : decode cL_law 229 = .ok (.if_icmp .ge 104, 3) := by decide +kernel
theorem dL_law_232 : decode cL_law 232 = .ok (.aload_n 2, 1) := by decide +kernel
theorem dL_law_233 : decode cL_law 233 = .ok (.iload 10, 2) := by decide +kernel
theorem dL_law_235 : decode cL_law 235 = .ok (.iload 17, 2) := by decide +kernel
theorem dL_law_237 : decode cL_law 237 = .ok (.iconst 1, 1) := by decide +kernel
theorem dL_law_238 : decode cL_law 238 = .ok (.ishr, 1) := by decide +kernel
theorem dL_law_239 : decode cL_law 239 = .ok (.bipush 60, 2) := by decide +kernel
theorem dL_law_241 : decode cL_law 241 = .ok (.irem, 1) := by decide +kernel
theorem dL_law_242 : decode cL_law 242 = .ok (.iastore, 1) := by decide +kernel
theorem dL_law_243 : decode cL_law 243 = .ok (.aload_n 3, 1) := by decide +kernel
theorem dL_law_244 : decode cL_law 244 = .ok (.iload 10, 2) := by decide +kernel
theorem dL_law_246 : decode cL_law 246 = .ok (.iload 17, 2) := by decide +kernel
theorem dL_law_248 : decode cL_law 248 = .ok (.iconst 3, 1) := by decide +kernel
theorem dL_law_249 : decode cL_law 249 = .ok (.ishr, 1) := by decide +kernel
theorem dL_law_250 : decode cL_law 250 = .ok (.iconst 1, 1) := by decide +kernel
theorem dL_law_251 : decode cL_law 251 = .ok (.iand, 1) := by decide +kernel
theorem dL_law_252 : decode cL_law 252 = .ok (.ifCond .ne 14, 3) := by decide +kernel
theorem dL_law_255 : decode cL_law 255 = .ok (.iload 17, 2) := by decide +kernel
theorem dL_law_257 : decode cL_law 257 = .ok (.bipush 7, 2) := by decide +kernel
theorem dL_law_259 : decode cL_law 259 = .ok (.ishr, 1) := by decide +kernel
theorem dL_law_260 : decode cL_law 260 = .ok (.bipush 90, 2) := by decide +kernel
theorem dL_law_262 : decode cL_law 262 = .ok (.irem, 1) := by decide +kernel
theorem dL_law_263 : decode cL_law 263 = .ok (.goto 12, 3) := by decide +kernel
theorem dL_law_266 : decode cL_law 266 = .ok (.iload 17, 2) := by decide +kernel
theorem dL_law_268 : decode cL_law 268 = .ok (.bipush 7, 2) := by decide +kernel
theorem dL_law_270 : decode cL_law 270 = .ok (.ishr, 1) := by decide +kernel
theorem dL_law_271 : decode cL_law 271 = .ok (.sipush 1501, 3) := by decide +kernel
theorem dL_law_274 : decode cL_law 274 = .ok (.irem, 1) := by decide +kernel
theorem dL_law_275 : decode cL_law 275 = .ok (.iastore, 1) := by decide +kernel
theorem dL_law_276 : decode cL_law 276 = .ok (.aload_n 1, 1) := by decide +kernel
theorem dL_law_277 : decode cL_law 277 = .ok (.aload_n 2, 1) := by decide +kernel
theorem dL_law_278 : decode cL_law 278 = .ok (.iload 10, 2) := by decide +kernel
theorem dL_law_280 : decode cL_law 280 = .ok (.iaload, 1) := by decide +kernel
theorem dL_law_281 : decode cL_law 281 = .ok (.aload_n 3, 1) := by decide +kernel
theorem dL_law_282 : decode cL_law 282 = .ok (.iload 10, 2) := by decide +kernel
theorem dL_law_284 : decode cL_law 284 = .ok (.iaload, 1) := by decide +kernel
theorem dL_law_285 : decode cL_law 285 = .ok (.invokevirtual 81, 3) := by decide +kernel
theorem dL_law_288 : decode cL_law 288 = .ok (.iload 10, 2) := by decide +kernel
theorem dL_law_290 : decode cL_law 290 = .ok (.if_icmp .ne 34, 3) := by decide +kernel
theorem dL_law_293 : decode cL_law 293 = .ok (.aload_n 1, 1) := by decide +kernel
theorem dL_law_294 : decode cL_law 294 = .ok (.iload 10, 2) := by decide +kernel
theorem dL_law_296 : decode cL_law 296 = .ok (.iconst 0, 1) := by decide +kernel
theorem dL_law_297 : decode cL_law 297 = .ok (.invokevirtual 63, 3) := by decide +kernel
theorem dL_law_300 : decode cL_law 300 = .ok (.sipush 1000, 3) := by decide +kernel
theorem dL_law_303 : decode cL_law 303 = .ok (.aload_n 2, 1) := by decide +kernel
theorem dL_law_304 : decode cL_law 304 = .ok (.iload 10, 2) := by decide +kernel
theorem dL_law_306 : decode cL_law 306 = .ok (.iaload, 1) := by decide +kernel
theorem dL_law_307 : decode cL_law 307 = .ok (.imul, 1) := by decide +kernel
theorem dL_law_308 : decode cL_law 308 = .ok (.if_icmp .ne 16, 3) := by decide +kernel
theorem dL_law_311 : decode cL_law 311 = .ok (.aload_n 1, 1) := by decide +kernel
theorem dL_law_312 : decode cL_law 312 = .ok (.iload 10, 2) := by decide +kernel
theorem dL_law_314 : decode cL_law 314 = .ok (.invokevirtual 84, 3) := by decide +kernel
theorem dL_law_317 : decode cL_law 317 = .ok (.ifCond .ne 7, 3) := by decide +kernel
theorem dL_law_320 : decode cL_law 320 = .ok (.iconst 1, 1) := by decide +kernel
theorem dL_law_321 : decode cL_law 321 = .ok (.goto 4, 3) := by decide +kernel
theorem dL_law_324 : decode cL_law 324 = .ok (.iconst 0, 1) := by decide +kernel
theorem dL_law_325 : decode cL_law 325 = .ok (.istore 13, 2) := by decide +kernel
theorem dL_law_327 : decode cL_law 327 = .ok (.iinc 10 1, 3) := by decide +kernel
theorem dL_law_330 : decode cL_law 330 = .ok (.goto 1296, 3) := by decide +kernel
theorem dL_law_333 : decode cL_law 333 = .ok (.iload 18, 2) := by decide +kernel
theorem dL_law_335 : decode cL_law 335 = .ok (.iconst 1, 1) := by decide +kernel
theorem dL_law_336 : decode cL_law 336 = .ok (.if_icmp .ne 65, 3) := by decide +kernel
theorem dL_law_339 : decode cL_law 339 = .ok (.iload 17, 2) := by decide +kernel
theorem dL_law_341 : decode cL_law 341 = .ok (.iconst 3, 1) := by decide +kernel
theorem dL_law_342 : decode cL_law 342 = .ok (.ishr, 1) := by decide +kernel
theorem dL_law_343 : decode cL_law 343 = .ok (.iconst 1, 1) := by decide +kernel
theorem dL_law_344 : decode cL_law 344 = .ok (.iand, 1) := by decide +kernel
theorem dL_law_345 : decode cL_law 345 = .ok (.ifCond .ne 14, 3) := by decide +kernel
theorem dL_law_348 : decode cL_law 348 = .ok (.iload 17, 2) := by decide +kernel
theorem dL_law_350 : decode cL_law 350 = .ok (.bipush 7, 2) := by decide +kernel
theorem dL_law_352 : decode cL_law 352 = .ok (.ishr, 1) := by decide +kernel
theorem dL_law_353 : decode cL_law 353 = .ok (.bipush 90, 2) := by decide +kernel
theorem dL_law_355 : decode cL_law 355 = .ok (.irem, 1) := by decide +kernel
theorem dL_law_356 : decode cL_law 356 = .ok (.goto 12, 3) := by decide +kernel
theorem dL_law_359 : decode cL_law 359 = .ok (.iload 17, 2) := by decide +kernel
theorem dL_law_361 : decode cL_law 361 = .ok (.bipush 7, 2) := by decide +kernel
theorem dL_law_363 : decode cL_law 363 = .ok (.ishr, 1) := by decide +kernel
theorem dL_law_364 : decode cL_law 364 = .ok (.sipush 1501, 3) := by decide +kernel
theorem dL_law_367 : decode cL_law 367 = .ok (.irem, 1) := by decide +kernel
theorem dL_law_368 : decode cL_law 368 = .ok (.istore 21, 2) := by decide +kernel
theorem dL_law_370 : decode cL_law 370 = .ok (.aload_n 1, 1) := by decide +kernel
theorem dL_law_371 : decode cL_law 371 = .ok (.iload 19, 2) := by decide +kernel
theorem dL_law_373 : decode cL_law 373 = .ok (.iload 21, 2) := by decide +kernel
theorem dL_law_375 : decode cL_law 375 = .ok (.invokevirtual 87, 3) := by decide +kernel
theorem dL_law_378 : decode cL_law 378 = .ok (.aload_n 3, 1) := by decide +kernel
theorem dL_law_379 : decode cL_law 379 = .ok (.iload 19, 2) := by decide +kernel
theorem dL_law_381 : decode cL_law 381 = .ok (.iaload, 1) := by decide +kernel
theorem dL_law_382 : decode cL_law 382 = .ok (.if_icmp .ne 7, 3) := by decide +kernel
theorem dL_law_385 : decode cL_law 385 = .ok (.iconst 1, 1) := by decide +kernel
theorem dL_law_386 : decode cL_law 386 = .ok (.goto 4, 3) := by decide +kernel
theorem dL_law_389 : decode cL_law 389 = .ok (.iconst 0, 1) := by decide +kernel
theorem dL_law_390 : decode cL_law 390 = .ok (.istore 13, 2) := by decide +kernel
theorem dL_law_392 : decode cL_law 392 = .ok (.aload_n 3, 1) := by decide +kernel
theorem dL_law_393 : decode cL_law 393 = .ok (.iload 19, 2) := by decide +kernel
theorem dL_law_395 : decode cL_law 395 = .ok (.iload 21, 2) := by decide +kernel
theorem dL_law_397 : decode cL_law 397 = .ok (.iastore, 1) := by decide +kernel
theorem dL_law_398 : decode cL_law 398 = .ok (.goto 1228, 3) := by decide +kernel
theorem dL_law_401 : decode cL_law 401 = .ok (.iload 18, 2) := by decide +kernel
theorem dL_law_403 : decode cL_law 403 = .ok (.bipush 6, 2) := by decide +kernel
theorem dL_law_405 : decode cL_law 405 = .ok (.if_icmp .ge 150, 3) := by decide +kernel
theorem dL_law_408 : decode cL_law 408 = .ok (.iload 17, 2) := by decide +kernel
theorem dL_law_410 : decode cL_law 410 = .ok (.iconst 3, 1) := by decide +kernel
theorem dL_law_411 : decode cL_law 411 = .ok (.ishr, 1) := by decide +kernel
theorem dL_law_412 : decode cL_law 412 = .ok (.sipush 150, 3) := by decide +kernel
theorem dL_law_415 : decode cL_law 415 = .ok (.irem, 1) := by decide +kernel
