/-! instructions of refuses -/
theorem dL_refuses_0 : decode cL_refuses 0 = .ok (.iload_n 2, 1) := by decide +kernel
theorem dL_refuses_1 : decode cL_refuses 1 = .ok (.iconst 2, 1) := by decide +kernel
theorem dL_refuses_2 : decode cL_refuses 2 = .ok (.irem, 1) := by decide +kernel
theorem dL_refuses_3 : decode cL_refuses 3 = .ok (.ifCond .ne 7, 3) := by decide +kernel
theorem dL_refuses_6 : decode cL_refuses 6 = .ok (.iconst 1, 1) := by decide +kernel
theorem dL_refuses_7 : decode cL_refuses 7 = .ok (.goto 4, 3) := by decide +kernel
theorem dL_refuses_10 : decode cL_refuses 10 = .ok (.iconst 0, 1) := by decide +kernel
theorem dL_refuses_11 : decode cL_refuses 11 = .ok (.istore_n 3, 1) := by decide +kernel
theorem dL_refuses_12 : decode cL_refuses 12 = .ok (.iload_n 3, 1) := by decide +kernel
theorem dL_refuses_13 : decode cL_refuses 13 = .ok (.ifCond .eq 12, 3) := by decide +kernel
theorem dL_refuses_16 : decode cL_refuses 16 = .ok (.iconst (-1), 1) := by decide +kernel
theorem dL_refuses_17 : decode cL_refuses 17 = .ok (.iload_n 2, 1) := by decide +kernel
theorem dL_refuses_18 : decode cL_refuses 18 = .ok (.bipush 50, 2) := by decide +kernel
theorem dL_refuses_20 : decode cL_refuses 20 = .ok (.irem, 1) := by decide +kernel
theorem dL_refuses_21 : decode cL_refuses 21 = .ok (.isub, 1) := by decide +kernel
theorem dL_refuses_22 : decode cL_refuses 22 = .ok (.goto 10, 3) := by decide +kernel
theorem dL_refuses_25 : decode cL_refuses 25 = .ok (.bipush 8, 2) := by decide +kernel
theorem dL_refuses_27 : decode cL_refuses 27 = .ok (.iload_n 2, 1) := by decide +kernel
theorem dL_refuses_28 : decode cL_refuses 28 = .ok (.bipush 50, 2) := by decide +kernel
theorem dL_refuses_30 : decode cL_refuses 30 = .ok (.irem, 1) := by decide +kernel
theorem dL_refuses_31 : decode cL_refuses 31 = .ok (.iadd, 1) := by decide +kernel
theorem dL_refuses_32 : decode cL_refuses 32 = .ok (.istore 4, 2) := by decide +kernel
theorem dL_refuses_34 : decode cL_refuses 34 = .ok (.iload_n 3, 1) := by decide +kernel
theorem dL_refuses_35 : decode cL_refuses 35 = .ok (.ifCond .eq 12, 3) := by decide +kernel
theorem dL_refuses_38 : decode cL_refuses 38 = .ok (.iconst (-1), 1) := by decide +kernel
theorem dL_refuses_39 : decode cL_refuses 39 = .ok (.iload_n 2, 1) := by decide +kernel
theorem dL_refuses_40 : decode cL_refuses 40 = .ok (.bipush 50, 2) := by decide +kernel
theorem dL_refuses_42 : decode cL_refuses 42 = .ok (.irem, 1) := by decide +kernel
theorem dL_refuses_43 : decode cL_refuses 43 = .ok (.isub, 1) := by decide +kernel
theorem dL_refuses_44 : decode cL_refuses 44 = .ok (.goto 12, 3) := by decide +kernel
theorem dL_refuses_47 : decode cL_refuses 47 = .ok (.aload_n 0, 1) := by decide +kernel
theorem dL_refuses_48 : decode cL_refuses 48 = .ok (.invokevirtual 133, 3) := by decide +kernel
theorem dL_refuses_51 : decode cL_refuses 51 = .ok (.iload_n 2, 1) := by decide +kernel
theorem dL_refuses_52 : decode cL_refuses 52 = .ok (.bipush 50, 2) := by decide +kernel
theorem dL_refuses_54 : decode cL_refuses 54 = .ok (.irem, 1) := by decide +kernel
theorem dL_refuses_55 : decode cL_refuses 55 = .ok (.iadd, 1) := by decide +kernel
theorem dL_refuses_56 : decode cL_refuses 56 = .ok (.istore 5, 2) := by decide +kernel
theorem dL_refuses_58 : decode cL_refuses 58 = .ok (.iload_n 3, 1) := by decide +kernel
theorem dL_refuses_59 : decode cL_refuses 59 = .ok (.ifCond .eq 12, 3) := by decide +kernel
theorem dL_refuses_62 : decode cL_refuses 62 = .ok (.iconst (-1), 1) := by decide +kernel
theorem dL_refuses_63 : decode cL_refuses 63 = .ok (.iload_n 2, 1) := by decide +kernel
theorem dL_refuses_64 : decode cL_refuses 64 = .ok (.bipush 50, 2) := by decide +kernel
theorem dL_refuses_66 : decode cL_refuses 66 = .ok (.irem, 1) := by decide +kernel
theorem dL_refuses_67 : decode cL_refuses 67 = .ok (.isub, 1) := by decide +kernel
theorem dL_refuses_68 : decode cL_refuses 68 = .ok (.goto 11, 3) := by decide +kernel
theorem dL_refuses_71 : decode cL_refuses 71 = .ok (.aload_n 1, 1) := by decide +kernel
theorem dL_refuses_72 : decode cL_refuses 72 = .ok (.iconst 0, 1) := by decide +kernel
theorem dL_refuses_73 : decode cL_refuses 73 = .ok (.iaload, 1) := by decide +kernel
theorem dL_refuses_74 : decode cL_refuses 74 = .ok (.iload_n 2, 1) := by decide +kernel
theorem dL_refuses_75 : decode cL_refuses 75 = .ok (.bipush 50, 2) := by decide +kernel
theorem dL_refuses_77 : decode cL_refuses 77 = .ok (.irem, 1) := by decide +kernel
theorem dL_refuses_78 : decode cL_refuses 78 = .ok (.iadd, 1) := by decide +kernel
theorem dL_refuses_79 : decode cL_refuses 79 = .ok (.istore 6, 2) := by decide +kernel
theorem dL_refuses_81 : decode cL_refuses 81 = .ok (.iload_n 3, 1) := by decide +kernel
theorem dL_refuses_82 : decode cL_refuses 82 = .ok (.ifCond .eq 12, 3) := by decide +kernel
theorem dL_refuses_85 : decode cL_refuses 85 = .ok (.iconst (-1), 1) := by decide +kernel
theorem dL_refuses_86 : decode cL_refuses 86 = .ok (.iload_n 2, 1) := by decide +kernel
theorem dL_refuses_87 : decode cL_refuses 87 = .ok (.bipush 50, 2) := by decide +kernel
theorem dL_refuses_89 : decode cL_refuses 89 = .ok (.irem, 1) := by decide +kernel
theorem dL_refuses_90 : decode cL_refuses 90 = .ok (.isub, 1) := by decide +kernel
theorem dL_refuses_91 : decode cL_refuses 91 = .ok (.goto 11, 3) := by decide +kernel
theorem dL_refuses_94 : decode cL_refuses 94 = .ok (.aload_n 1, 1) := by decide +kernel
theorem dL_refuses_95 : decode cL_refuses 95 = .ok (.iconst 1, 1) := by decide +kernel
theorem dL_refuses_96 : decode cL_refuses 96 = .ok (.iaload, 1) := by decide +kernel
theorem dL_refuses_97 : decode cL_refuses 97 = .ok (.iload_n 2, 1) := by decide +kernel
theorem dL_refuses_98 : decode cL_refuses 98 = .ok (.bipush 50, 2) := by decide +kernel
theorem dL_refuses_100 : decode cL_refuses 100 = .ok (.irem, 1) := by decide +kernel
theorem dL_refuses_101 : decode cL_refuses 101 = .ok (.iadd, 1) := by decide +kernel
theorem dL_refuses_102 : decode cL_refuses 102 = .ok (.istore 7, 2) := by decide +kernel
theorem dL_refuses_104 : decode cL_refuses 104 = .ok (.iload_n 2, 1) := by decide +kernel
theorem dL_refuses_105 : decode cL_refuses 105 = .ok (.bipush 8, 2) := by decide +kernel
theorem dL_refuses_107 : decode cL_refuses 107 = .ok (.irem, 1) := by decide +kernel
theorem dL_refuses_108 : decode cL_refuses 108 = .ok (.istore 8, 2) := by decide +kernel
theorem dL_refuses_110 : decode cL_refuses 110 = .ok (.aload_n 0, 1) := by decide +kernel
theorem dL_refuses_111 : decode cL_refuses 111 = .ok (.iload 4, 2) := by decide +kernel
theorem dL_refuses_113 : decode cL_refuses 113 = .ok (.iconst 0, 1) := by decide +kernel
theorem dL_refuses_114 : decode cL_refuses 114 = .ok (.invokestatic 136, 3) := by decide +kernel
theorem dL_refuses_117 : decode cL_refuses 117 = .ok (.ldc 15, 2) := by decide +kernel
theorem dL_refuses_119 : decode cL_refuses 119 = .ok (.if_icmp .ne 488, 3) := by decide +kernel
theorem dL_refuses_122 : decode cL_refuses 122 = .ok (.aload_n 0, 1) := by decide +kernel
theorem dL_refuses_123 : decode cL_refuses 123 = .ok (.iload 8, 2) := by decide +kernel
theorem dL_refuses_125 : decode cL_refuses 125 = .ok (.iconst 0, 1) := by decide +kernel
theorem dL_refuses_126 : decode cL_refuses 126 = .ok (.invokestatic 136, 3) := by decide +kernel
theorem dL_refuses_129 : decode cL_refuses 129 = .ok (.ldc 18, 2) := by decide +kernel
theorem dL_refuses_131 : decode cL_refuses 131 = .ok (.if_icmp .ne 476, 3) := by decide +kernel
theorem dL_refuses_134 : decode cL_refuses 134 = .ok (.aload_n 0, 1) := by decide +kernel
theorem dL_refuses_135 : decode cL_refuses 135 = .ok (.iload 8, 2) := by decide +kernel
theorem dL_refuses_137 : decode cL_refuses 137 = .ok (.sipush 10001, 3) := by decide +kernel
theorem dL_refuses_140 : decode cL_refuses 140 = .ok (.iload_n 2, 1) := by decide +kernel
theorem dL_refuses_141 : decode cL_refuses 141 = .ok (.iadd, 1) := by decide +kernel
theorem dL_refuses_142 : decode cL_refuses 142 = .ok (.invokestatic 136, 3) := by decide +kernel
theorem dL_refuses_145 : decode cL_refuses 145 = .ok (.ldc 18, 2) := by decide +kernel
theorem dL_refuses_147 : decode cL_refuses 147 = .ok (.if_icmp .ne 460, 3) := by decide +kernel
theorem dL_refuses_150 : decode cL_refuses 150 = .ok (.aload_n 0, 1) := by decide +kernel
theorem dL_refuses_151 : decode cL_refuses 151 = .ok (.iload 8, 2) := by decide +kernel
theorem dL_refuses_153 : decode cL_refuses 153 = .ok (.sipush (-10001), 3) := by decide +kernel
theorem dL_refuses_156 : decode cL_refuses 156 = .ok (.iload_n 2, 1) := by decide +kernel
theorem dL_refuses_157 : decode cL_refuses 157 = .ok (.isub, 1) := by decide +kernel
theorem dL_refuses_158 : decode cL_refuses 158 = .ok (.invokestatic 136, 3) := by decide +kernel
theorem dL_refuses_161 : decode cL_refuses 161 = .ok (.ldc 18, 2) := by decide +kernel
theorem dL_refuses_163 : decode cL_refuses 163 = .ok (.if_icmp .ne 444, 3) := by decide +kernel
theorem dL_refuses_166 : decode cL_refuses 166 = .ok (.aload_n 0, 1) := by decide +kernel
theorem dL_refuses_167 : decode cL_refuses 167 = .ok (.sipush 10000, 3) := by decide +kernel
theorem dL_refuses_170 : decode cL_refuses 170 = .ok (.iload_n 2, 1) := by decide +kernel
theorem dL_refuses_171 : decode cL_refuses 171 = .ok (.iadd, 1) := by decide +kernel
theorem dL_refuses_172 : decode cL_refuses 172 = .ok (.invokestatic 142, 3) := by decide +kernel
theorem dL_refuses_175 : decode cL_refuses 175 = .ok (.ldc 18, 2) := by decide +kernel
theorem dL_refuses_177 : decode cL_refuses 177 = .ok (.if_icmp .ne 430, 3) := by decide +kernel
theorem dL_refuses_180 : decode cL_refuses 180 = .ok (.aload_n 0, 1) := by decide +kernel
theorem dL_refuses_181 : decode cL_refuses 181 = .ok (.iconst (-1), 1) := by decide +kernel
theorem dL_refuses_182 : decode cL_refuses 182 = .ok (.iload_n 2, 1) := by decide +kernel
theorem dL_refuses_183 : decode cL_refuses 183 = .ok (.isub, 1) := by decide +kernel
theorem dL_refuses_184 : decode cL_refuses 184 = .ok (.invokestatic 142, 3) := by decide +kernel
theorem dL_refuses_187 : decode cL_refuses 187 = .ok (.ldc 18, 2) := by decide +kernel
theorem dL_refuses_189 : decode cL_refuses 189 = .ok (.if_icmp .ne 418, 3) := by decide +kernel
theorem dL_refuses_192 : decode cL_refuses 192 = .ok (.aload_n 0, 1) := by decide +kernel
theorem dL_refuses_193 : decode cL_refuses 193 = .ok (.iload 5, 2) := by decide +kernel
theorem dL_refuses_195 : decode cL_refuses 195 = .ok (.invokestatic 146, 3) := by decide +kernel
theorem dL_refuses_198 : decode cL_refuses 198 = .ok (.ldc 15, 2) := by decide +kernel
theorem dL_refuses_200 : decode cL_refuses 200 = .ok (.if_icmp .ne 407, 3) := by decide +kernel
theorem dL_refuses_203 : decode cL_refuses 203 = .ok (.aload_n 0, 1) := by decide +kernel
theorem dL_refuses_204 : decode cL_refuses 204 = .ok (.iload_n 2, 1) := by decide +kernel
theorem dL_refuses_205 : decode cL_refuses 205 = .ok (.ineg, 1) := by decide +kernel
theorem dL_refuses_206 : decode cL_refuses 206 = .ok (.invokestatic 149, 3) := by decide +kernel
theorem dL_refuses_209 : decode cL_refuses 209 = .ok (.ldc 18, 2) := by decide +kernel
theorem dL_refuses_211 : decode cL_refuses 211 = .ok (.if_icmp .ne 396, 3) := by decide +kernel
theorem dL_refuses_214 : decode cL_refuses 214 = .ok (.aload_n 0, 1) := by decide +kernel
theorem dL_refuses_215 : decode cL_refuses 215 = .ok (.bipush 101, 2) := by decide +kernel
theorem dL_refuses_217 : decode cL_refuses 217 = .ok (.iload_n 2, 1) := by decide +kernel
theorem dL_refuses_218 : decode cL_refuses 218 = .ok (.iadd, 1) := by decide +kernel
theorem dL_refuses_219 : decode cL_refuses 219 = .ok (.invokestatic 149, 3) := by decide +kernel
theorem dL_refuses_222 : decode cL_refuses 222 = .ok (.ldc 18, 2) := by decide +kernel
theorem dL_refuses_224 : decode cL_refuses 224 = .ok (.if_icmp .ne 383, 3) := by decide +kernel
theorem dL_refuses_227 : decode cL_refuses 227 = .ok (.aload_n 0, 1) := by decide +kernel
theorem dL_refuses_228 : decode cL_refuses 228 = .ok (.iload 5, 2) := by decide +kernel
theorem dL_refuses_230 : decode cL_refuses 230 = .ok (.iload 5, 2) := by decide +kernel
theorem dL_refuses_232 : decode cL_refuses 232 = .ok (.invokestatic 152, 3) := by decide +kernel
theorem dL_refuses_235 : decode cL_refuses 235 = .ok (.ldc 15, 2) := by decide +kernel
theorem dL_refuses_237 : decode cL_refuses 237 = .ok (.if_icmp .ne 370, 3) := by decide +kernel
theorem dL_refuses_240 : decode cL_refuses 240 = .ok (.aload_n 0, 1) := by decide +kernel
theorem dL_refuses_241 : decode cL_refuses 241 = .ok (.iload 5, 2) := by decide +kernel
theorem dL_refuses_243 : decode cL_refuses 243 = .ok (.bipush 9, 2) := by decide +kernel
theorem dL_refuses_245 : decode cL_refuses 245 = .ok (.ldc 155, 2) := by decide +kernel
theorem dL_refuses_247 : decode cL_refuses 247 = .ok (.invokestatic 156, 3) := by decide +kernel
theorem dL_refuses_250 : decode cL_refuses 250 = .ok (.ldc 15, 2) := by decide +kernel
theorem dL_refuses_252 : decode cL_refuses 252 = .ok (.if_icmp .ne 355, 3) := by decide +kernel
theorem dL_refuses_255 : decode cL_refuses 255 = .ok (.aload_n 0, 1) := by decide +kernel
theorem dL_refuses_256 : decode cL_refuses 256 = .ok (.iload 6, 2) := by decide +kernel
theorem dL_refuses_258 : decode cL_refuses 258 = .ok (.invokestatic 160, 3) := by decide +kernel
theorem dL_refuses_261 : decode cL_refuses 261 = .ok (.ldc 15, 2) := by decide +kernel
theorem dL_refuses_263 : decode cL_refuses 263 = .ok (.if_icmp .ne 344, 3) := by decide +kernel
theorem dL_refuses_266 : decode cL_refuses 266 = .ok (.aload_n 0, 1) := by decide +kernel
theorem dL_refuses_267 : decode cL_refuses 267 = .ok (.iload 6, 2) := by decide +kernel
theorem dL_refuses_269 : decode cL_refuses 269 = .ok (.iconst 1, 1) := by decide +kernel
theorem dL_refuses_270 : decode cL_refuses 270 = .ok (.invokestatic 163, 3) := by decide +kernel
theorem dL_refuses_273 : decode cL_refuses 273 = .ok (.ldc 15, 2) := by decide +kernel
theorem dL_refuses_275 : decode cL_refuses 275 = .ok (.if_icmp .ne 332, 3) := by decide +kernel
theorem dL_refuses_278 : decode cL_refuses 278 = .ok (.aload_n 0, 1) := by decide +kernel
theorem dL_refuses_279 : decode cL_refuses 279 = .ok (.iload 6, 2) := by decide +kernel
theorem dL_refuses_281 : decode cL_refuses 281 = .ok (.iconst 0, 1) := by decide +kernel
theorem dL_refuses_282 : decode cL_refuses 282 = .ok (.invokestatic 167, 3) := by decide +kernel
theorem dL_refuses_285 : decode cL_refuses 285 = .ok (.ldc 15, 2) := by decide +kernel
theorem dL_refuses_287 : decode cL_refuses 287 = .ok (.if_icmp .ne 320, 3) := by decide +kernel
theorem dL_refuses_290 : decode cL_refuses 290 = .ok (.aload_n 0, 1) := by decide +kernel
theorem dL_refuses_291 : decode cL_refuses 291 = .ok (.iload 6, 2) := by decide +kernel
theorem dL_refuses_293 : decode cL_refuses 293 = .ok (.invokestatic 170, 3) := by decide +kernel
theorem dL_refuses_296 : decode cL_refuses 296 = .ok (.ldc 15, 2) := by decide +kernel
theorem dL_refuses_298 : decode cL_refuses 298 = .ok (.if_icmp .ne 309, 3) := by decide +kernel
theorem dL_refuses_301 : decode cL_refuses 301 = .ok (.aload_n 0, 1) := by decide +kernel
theorem dL_refuses_302 : decode cL_refuses 302 = .ok (.iload 6, 2) := by decide +kernel
theorem dL_refuses_304 : decode cL_refuses 304 = .ok (.invokestatic 173, 3) := by decide +kernel
theorem dL_refuses_307 : decode cL_refuses 307 = .ok (.ldc 15, 2) := by decide +kernel
theorem dL_refuses_309 : decode cL_refuses 309 = .ok (.if_icmp .ne 298, 3) := by decide +kernel
theorem dL_refuses_312 : decode cL_refuses 312 = .ok (.aload_n 0, 1) := by decide +kernel
theorem dL_refuses_313 : decode cL_refuses 313 = .ok (.iload 7, 2) := by decide +kernel
theorem dL_refuses_315 : decode cL_refuses 315 = .ok (.invokestatic 176, 3) := by decide +kernel
theorem dL_refuses_318 : decode cL_refuses 318 = .ok (.ldc 15, 2) := by decide +kernel
theorem dL_refuses_320 : decode cL_refuses 320 = .ok (.if_icmp .ne 287, 3) := by decide +kernel
theorem dL_refuses_323 : decode cL_refuses 323 = .ok (.aload_n 0, 1) := by decide +kernel
theorem dL_refuses_324 : decode cL_refuses 324 = .ok (.iload 7, 2) := by decide +kernel
theorem dL_refuses_326 : decode cL_refuses 326 = .ok (.iconst 0, 1) := by decide +kernel
theorem dL_refuses_327 : decode cL_refuses 327 = .ok (.iconst 5, 1) := by decide +kernel
theorem dL_refuses_328 : decode cL_refuses 328 = .ok (.iconst 4, 1) := by decide +kernel
theorem dL_refuses_329 : decode cL_refuses 329 = .ok (.invokestatic 179, 3) := by decide +kernel
theorem dL_refuses_332 : decode cL_refuses 332 = .ok (.ldc 15, 2) := by decide +kernel
theorem dL_refuses_334 : decode cL_refuses 334 = .ok (.if_icmp .ne 273, 3) := by decide +kernel
theorem dL_refuses_337 : decode cL_refuses 337 = .ok (.aload_n 0, 1) := by decide +kernel
theorem dL_refuses_338 : decode cL_refuses 338 = .ok (.iload 7, 2) := by decide +kernel
theorem dL_refuses_340 : decode cL_refuses 340 = .ok (.iconst 0, 1) := by decide +kernel
theorem dL_refuses_341 : decode cL_refuses 341 = .ok (.invokestatic 183, 3) := by decide +kernel
theorem dL_refuses_344 : decode cL_refuses 344 = .ok (.ldc 15, 2) := by decide +kernel
theorem dL_refuses_346 : decode cL_refuses 346 = .ok (.if_icmp .ne 261, 3) := by decide +kernel
theorem dL_refuses_349 : decode cL_refuses 349 = .ok (.aload_n 0, 1) := by decide +kernel
theorem dL_refuses_350 : decode cL_refuses 350 = .ok (.iload 5, 2) := by decide +kernel
theorem dL_refuses_352 : decode cL_refuses 352 = .ok (.invokestatic 186, 3) := by decide +kernel
theorem dL_refuses_355 : decode cL_refuses 355 = .ok (.ldc 15, 2) := by decide +kernel
theorem dL_refuses_357 : decode cL_refuses 357 = .ok (.if_icmp .ne 250, 3) := by decide +kernel
theorem dL_refuses_360 : decode cL_refuses 360 = .ok (.aload_n 0, 1) := by decide +kernel
theorem dL_refuses_361 : decode cL_refuses 361 = .ok (.iload 5, 2) := by decide +kernel
theorem dL_refuses_363 : decode cL_refuses 363 = .ok (.invokestatic 188, 3) := by decide +kernel
theorem dL_refuses_366 : decode cL_refuses 366 = .ok (.ldc 15, 2) := by decide +kernel
theorem dL_refuses_368 : decode cL_refuses 368 = .ok (.if_icmp .ne 239, 3) := by decide +kernel
theorem dL_refuses_371 : decode cL_refuses 371 = .ok (.aload_n 0, 1) := by decide +kernel
theorem dL_refuses_372 : decode cL_refuses 372 = .ok (.iload 5, 2) := by decide +kernel
theorem dL_refuses_374 : decode cL_refuses 374 = .ok (.invokestatic 190, 3) := by decide +kernel
theorem dL_refuses_377 : decode cL_refuses 377 = .ok (.ldc 15, 2) := by decide +kernel
theorem dL_refuses_379 : decode cL_refuses 379 = .ok (.if_icmp .ne 228, 3) := by decide +kernel
theorem dL_refuses_382 : decode cL_refuses 382 = .ok (.aload_n 0, 1) := by decide +kernel
theorem dL_refuses_383 : decode cL_refuses 383 = .ok (.iload 5, 2) := by decide +kernel
theorem dL_refuses_385 : decode cL_refuses 385 = .ok (.invokestatic 192, 3) := by decide +kernel
theorem dL_refuses_388 : decode cL_refuses 388 = .ok (.ldc 15, 2) := by decide +kernel
theorem dL_refuses_390 : decode cL_refuses 390 = .ok (.if_icmp .ne 217, 3) := by decide +kernel
theorem dL_refuses_393 : decode cL_refuses 393 = .ok (.aload_n 0, 1) := by decide +kernel
theorem dL_refuses_394 : decode cL_refuses 394 = .ok (.iload 5, 2) := by decide +kernel
theorem dL_refuses_396 : decode cL_refuses 396 = .ok (.invokestatic 194, 3) := by decide +kernel
theorem dL_refuses_399 : decode cL_refuses 399 = .ok (.ldc 15, 2) := by decide +kernel
theorem dL_refuses_401 : decode cL_refuses 401 = .ok (.if_icmp .ne 206, 3) := by decide +kernel
theorem dL_refuses_404 : decode cL_refuses 404 = .ok (.aload_n 0, 1) := by decide +kernel
theorem dL_refuses_405 : decode cL_refuses 405 = .ok (.iload 5, 2) := by decide +kernel
theorem dL_refuses_407 : decode cL_refuses 407 = .ok (.iconst (-1), 1) := by decide +kernel
theorem dL_refuses_408 : decode cL_refuses 408 = .ok (.invokestatic 196, 3) := by decide +kernel
theorem dL_refuses_411 : decode cL_refuses 411 = .ok (.ldc 15, 2) := by decide +kernel
theorem dL_refuses_413 : decode cL_refuses 413 = .ok (.if_icmp .ne 194, 3) := by decide +kernel
theorem dL_refuses_416 : decode cL_refuses 416 = .ok (.aload_n 0, 1) := by decide +kernel
theorem dL_refuses_417 : decode cL_refuses 417 = .ok (.iload 5, 2) := by decide +kernel
theorem dL_refuses_419 : decode cL_refuses 419 = .ok (.iconst 0, 1) := by decide +kernel
theorem dL_refuses_420 : decode cL_refuses 420 = .ok (.invokestatic 198, 3) := by decide +kernel
theorem dL_refuses_423 : decode cL_refuses 423 = .ok (.ldc 15, 2) := by decide +kernel
theorem dL_refuses_425 : decode cL_refuses 425 = .ok (.if_icmp .ne 182, 3) := by decide +kernel
theorem dL_refuses_428 : decode cL_refuses 428 = .ok (.aload_n 0, 1) := by decide +kernel
theorem dL_refuses_429 : decode cL_refuses 429 = .ok (.iload 4, 2) := by decide +kernel
theorem dL_refuses_431 : decode cL_refuses 431 = .ok (.iconst (-1), 1) := by decide +kernel
theorem dL_refuses_432 : decode cL_refuses 432 = .ok (.invokestatic 200, 3) := by decide +kernel
theorem dL_refuses_435 : decode cL_refuses 435 = .ok (.ldc 15, 2) := by decide +kernel
theorem dL_refuses_437 : decode cL_refuses 437 = .ok (.if_icmp .ne 170, 3) := by decide +kernel
theorem dL_refuses_440 : decode cL_refuses 440 = .ok (.aload_n 0, 1) := by decide +kernel
theorem dL_refuses_441 : decode cL_refuses 441 = .ok (.iload 8, 2) := by decide +kernel
theorem dL_refuses_443 : decode cL_refuses 443 = .ok (.aload_n 0, 1) := by decide +kernel
theorem dL_refuses_444 : decode cL_refuses 444 = .ok (.invokevirtual 202, 3) := by decide +kernel
theorem dL_refuses_447 : decode cL_refuses 447 = .ok (.iconst 1, 1) := by decide +kernel
