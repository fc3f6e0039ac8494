/-! instructions of holdsAll -/
theorem dL_holdsAll_0 : decode cL_holdsAll 0 = .ok (.iload_n 2, 1) := by decide +kernel
theorem dL_holdsAll_1 : decode cL_holdsAll 1 = .ok (.aload_n 0, 1) := by decide +kernel
theorem dL_holdsAll_2 : decode cL_holdsAll 2 = .ok (.invokevirtual 202, 3) := by decide +kernel
theorem dL_holdsAll_5 : decode cL_holdsAll 5 = .ok (.iconst 1, 1) := by decide +kernel
theorem dL_holdsAll_6 : decode cL_holdsAll 6 = .ok (.iadd, 1) := by decide +kernel
theorem dL_holdsAll_7 : decode cL_holdsAll 7 = .ok (.irem, 1) := by decide +kernel
theorem dL_holdsAll_8 : decode cL_holdsAll 8 = .ok (.istore_n 3, 1) := by decide +kernel
theorem dL_holdsAll_9 : decode cL_holdsAll 9 = .ok (.iconst 0, 1) := by decide +kernel
theorem dL_holdsAll_10 : decode cL_holdsAll 10 = .ok (.istore 4, 2) := by decide +kernel
theorem dL_holdsAll_12 : decode cL_holdsAll 12 = .ok (.iconst 0, 1) := by decide +kernel
theorem dL_holdsAll_13 : decode cL_holdsAll 13 = .ok (.istore 5, 2) := by decide +kernel
theorem dL_holdsAll_15 : decode cL_holdsAll 15 = .ok (.iconst 1, 1) := by decide +kernel
theorem dL_holdsAll_16 : decode cL_holdsAll 16 = .ok (.istore 6, 2) := by decide +kernel
theorem dL_holdsAll_18 : decode cL_holdsAll 18 = .ok (.iconst 1, 1) := by decide +kernel
theorem dL_holdsAll_19 : decode cL_holdsAll 19 = .ok (.istore 7, 2) := by decide +kernel
theorem dL_holdsAll_21 : decode cL_holdsAll 21 = .ok (.iconst 0, 1) := by decide +kernel
theorem dL_holdsAll_22 : decode cL_holdsAll 22 = .ok (.istore 8, 2) := by decide +kernel
theorem dL_holdsAll_24 : decode cL_holdsAll 24 = .ok (.iload 8, 2) := by decide +kernel
theorem dL_holdsAll_26 : decode cL_holdsAll 26 = .ok (.aload_n 0, 1) := by decide +kernel
theorem dL_holdsAll_27 : decode cL_holdsAll 27 = .ok (.invokevirtual 133, 3) := by decide +kernel
theorem dL_holdsAll_30 : decode cL_holdsAll 30 = .ok (.if_icmp .ge 252, 3) := by decide +kernel
theorem dL_holdsAll_33 : decode cL_holdsAll 33 = .ok (.iload 7, 2) := by decide +kernel
theorem dL_holdsAll_35 : decode cL_holdsAll 35 = .ok (.ifCond .eq 247, 3) := by decide +kernel
theorem dL_holdsAll_38 : decode cL_holdsAll 38 = .ok (.iconst 0, 1) := by decide +kernel
theorem dL_holdsAll_39 : decode cL_holdsAll 39 = .ok (.istore 9, 2) := by decide +kernel
theorem dL_holdsAll_41 : decode cL_holdsAll 41 = .ok (.iconst 0, 1) := by decide +kernel
theorem dL_holdsAll_42 : decode cL_holdsAll 42 = .ok (.istore 10, 2) := by decide +kernel
theorem dL_holdsAll_44 : decode cL_holdsAll 44 = .ok (.iload 10, 2) := by decide +kernel
theorem dL_holdsAll_46 : decode cL_holdsAll 46 = .ok (.bipush 8, 2) := by decide +kernel
theorem dL_holdsAll_48 : decode cL_holdsAll 48 = .ok (.if_icmp .ge 22, 3) := by decide +kernel
theorem dL_holdsAll_51 : decode cL_holdsAll 51 = .ok (.iload 9, 2) := by decide +kernel
theorem dL_holdsAll_53 : decode cL_holdsAll 53 = .ok (.aload_n 0, 1) := by decide +kernel
theorem dL_holdsAll_54 : decode cL_holdsAll 54 = .ok (.iload 8, 2) := by decide +kernel
theorem dL_holdsAll_56 : decode cL_holdsAll 56 = .ok (.iload 10, 2) := by decide +kernel
theorem dL_holdsAll_58 : decode cL_holdsAll 58 = .ok (.invokestatic 198, 3) := by decide +kernel
theorem dL_holdsAll_61 : decode cL_holdsAll 61 = .ok (.iadd, 1) := by decide +kernel
theorem dL_holdsAll_62 : decode cL_holdsAll 62 = .ok (.istore 9, 2) := by decide +kernel
theorem dL_holdsAll_64 : decode cL_holdsAll 64 = .ok (.iinc 10 1, 3) := by decide +kernel
theorem dL_holdsAll_67 : decode cL_holdsAll 67 = .ok (.goto (-23), 3) := by decide +kernel
theorem dL_holdsAll_70 : decode cL_holdsAll 70 = .ok (.iload 5, 2) := by decide +kernel
theorem dL_holdsAll_72 : decode cL_holdsAll 72 = .ok (.aload_n 0, 1) := by decide +kernel
theorem dL_holdsAll_73 : decode cL_holdsAll 73 = .ok (.iload 8, 2) := by decide +kernel
theorem dL_holdsAll_75 : decode cL_holdsAll 75 = .ok (.invokestatic 186, 3) := by decide +kernel
theorem dL_holdsAll_78 : decode cL_holdsAll 78 = .ok (.iconst 1, 1) := by decide +kernel
theorem dL_holdsAll_79 : decode cL_holdsAll 79 = .ok (.if_icmp .ne 7, 3) := by decide +kernel
theorem dL_holdsAll_82 : decode cL_holdsAll 82 = .ok (.iconst 1, 1) := by decide +kernel
theorem dL_holdsAll_83 : decode cL_holdsAll 83 = .ok (.goto 4, 3) := by decide +kernel
theorem dL_holdsAll_86 : decode cL_holdsAll 86 = .ok (.iconst 0, 1) := by decide +kernel
theorem dL_holdsAll_87 : decode cL_holdsAll 87 = .ok (.iadd, 1) := by decide +kernel
theorem dL_holdsAll_88 : decode cL_holdsAll 88 = .ok (.istore 5, 2) := by decide +kernel
theorem dL_holdsAll_90 : decode cL_holdsAll 90 = .ok (.iload 6, 2) := by decide +kernel
theorem dL_holdsAll_92 : decode cL_holdsAll 92 = .ok (.ifCond .eq 27, 3) := by decide +kernel
theorem dL_holdsAll_95 : decode cL_holdsAll 95 = .ok (.aload_n 0, 1) := by decide +kernel
theorem dL_holdsAll_96 : decode cL_holdsAll 96 = .ok (.iload 8, 2) := by decide +kernel
theorem dL_holdsAll_98 : decode cL_holdsAll 98 = .ok (.invokestatic 186, 3) := by decide +kernel
theorem dL_holdsAll_101 : decode cL_holdsAll 101 = .ok (.iconst 2, 1) := by decide +kernel
theorem dL_holdsAll_102 : decode cL_holdsAll 102 = .ok (.if_icmp .eq 13, 3) := by decide +kernel
theorem dL_holdsAll_105 : decode cL_holdsAll 105 = .ok (.aload_n 0, 1) := by decide +kernel
theorem dL_holdsAll_106 : decode cL_holdsAll 106 = .ok (.iload 8, 2) := by decide +kernel
theorem dL_holdsAll_108 : decode cL_holdsAll 108 = .ok (.invokestatic 188, 3) := by decide +kernel
theorem dL_holdsAll_111 : decode cL_holdsAll 111 = .ok (.iconst 1, 1) := by decide +kernel
theorem dL_holdsAll_112 : decode cL_holdsAll 112 = .ok (.if_icmp .ne 7, 3) := by decide +kernel
theorem dL_holdsAll_115 : decode cL_holdsAll 115 = .ok (.iconst 1, 1) := by decide +kernel
theorem dL_holdsAll_116 : decode cL_holdsAll 116 = .ok (.goto 4, 3) := by decide +kernel
theorem dL_holdsAll_119 : decode cL_holdsAll 119 = .ok (.iconst 0, 1) := by decide +kernel
theorem dL_holdsAll_120 : decode cL_holdsAll 120 = .ok (.istore 6, 2) := by decide +kernel
theorem dL_holdsAll_122 : decode cL_holdsAll 122 = .ok (.aload_n 0, 1) := by decide +kernel
theorem dL_holdsAll_123 : decode cL_holdsAll 123 = .ok (.iload 8, 2) := by decide +kernel
theorem dL_holdsAll_125 : decode cL_holdsAll 125 = .ok (.invokestatic 194, 3) := by decide +kernel
theorem dL_holdsAll_128 : decode cL_holdsAll 128 = .ok (.istore 10, 2) := by decide +kernel
theorem dL_holdsAll_130 : decode cL_holdsAll 130 = .ok (.iload 9, 2) := by decide +kernel
theorem dL_holdsAll_132 : decode cL_holdsAll 132 = .ok (.ifCond .ne 77, 3) := by decide +kernel
theorem dL_holdsAll_135 : decode cL_holdsAll 135 = .ok (.aload_n 0, 1) := by decide +kernel
theorem dL_holdsAll_136 : decode cL_holdsAll 136 = .ok (.iload 8, 2) := by decide +kernel
theorem dL_holdsAll_138 : decode cL_holdsAll 138 = .ok (.invokestatic 192, 3) := by decide +kernel
theorem dL_holdsAll_141 : decode cL_holdsAll 141 = .ok (.ifCond .lt 68, 3) := by decide +kernel
theorem dL_holdsAll_144 : decode cL_holdsAll 144 = .ok (.aload_n 0, 1) := by decide +kernel
theorem dL_holdsAll_145 : decode cL_holdsAll 145 = .ok (.iload 8, 2) := by decide +kernel
theorem dL_holdsAll_147 : decode cL_holdsAll 147 = .ok (.invokestatic 192, 3) := by decide +kernel
theorem dL_holdsAll_150 : decode cL_holdsAll 150 = .ok (.ldc 248, 2) := by decide +kernel
theorem dL_holdsAll_152 : decode cL_holdsAll 152 = .ok (.if_icmp .ge 57, 3) := by decide +kernel
theorem dL_holdsAll_155 : decode cL_holdsAll 155 = .ok (.iload 10, 2) := by decide +kernel
theorem dL_holdsAll_157 : decode cL_holdsAll 157 = .ok (.iconst (-1), 1) := by decide +kernel
theorem dL_holdsAll_158 : decode cL_holdsAll 158 = .ok (.if_icmp .eq 29, 3) := by decide +kernel
theorem dL_holdsAll_161 : decode cL_holdsAll 161 = .ok (.iload 10, 2) := by decide +kernel
theorem dL_holdsAll_163 : decode cL_holdsAll 163 = .ok (.iload 8, 2) := by decide +kernel
theorem dL_holdsAll_165 : decode cL_holdsAll 165 = .ok (.if_icmp .le 44, 3) := by decide +kernel
theorem dL_holdsAll_168 : decode cL_holdsAll 168 = .ok (.iload 10, 2) := by decide +kernel
theorem dL_holdsAll_170 : decode cL_holdsAll 170 = .ok (.aload_n 0, 1) := by decide +kernel
theorem dL_holdsAll_171 : decode cL_holdsAll 171 = .ok (.invokevirtual 133, 3) := by decide +kernel
theorem dL_holdsAll_174 : decode cL_holdsAll 174 = .ok (.if_icmp .ge 35, 3) := by decide +kernel
theorem dL_holdsAll_177 : decode cL_holdsAll 177 = .ok (.aload_n 0, 1) := by decide +kernel
theorem dL_holdsAll_178 : decode cL_holdsAll 178 = .ok (.iload 10, 2) := by decide +kernel
theorem dL_holdsAll_180 : decode cL_holdsAll 180 = .ok (.invokestatic 194, 3) := by decide +kernel
theorem dL_holdsAll_183 : decode cL_holdsAll 183 = .ok (.iconst (-1), 1) := by decide +kernel
theorem dL_holdsAll_184 : decode cL_holdsAll 184 = .ok (.if_icmp .ne 25, 3) := by decide +kernel
theorem dL_holdsAll_187 : decode cL_holdsAll 187 = .ok (.aload_n 0, 1) := by decide +kernel
theorem dL_holdsAll_188 : decode cL_holdsAll 188 = .ok (.iload 8, 2) := by decide +kernel
theorem dL_holdsAll_190 : decode cL_holdsAll 190 = .ok (.invokestatic 188, 3) := by decide +kernel
theorem dL_holdsAll_193 : decode cL_holdsAll 193 = .ok (.ifCond .eq 12, 3) := by decide +kernel
theorem dL_holdsAll_196 : decode cL_holdsAll 196 = .ok (.aload_n 0, 1) := by decide +kernel
theorem dL_holdsAll_197 : decode cL_holdsAll 197 = .ok (.iload 8, 2) := by decide +kernel
theorem dL_holdsAll_199 : decode cL_holdsAll 199 = .ok (.invokestatic 186, 3) := by decide +kernel
theorem dL_holdsAll_202 : decode cL_holdsAll 202 = .ok (.ifCond .ne 7, 3) := by decide +kernel
theorem dL_holdsAll_205 : decode cL_holdsAll 205 = .ok (.iconst 1, 1) := by decide +kernel
theorem dL_holdsAll_206 : decode cL_holdsAll 206 = .ok (.goto 4, 3) := by decide +kernel
theorem dL_holdsAll_209 : decode cL_holdsAll 209 = .ok (.iconst 0, 1) := by decide +kernel
theorem dL_holdsAll_210 : decode cL_holdsAll 210 = .ok (.istore 7, 2) := by decide +kernel
theorem dL_holdsAll_212 : decode cL_holdsAll 212 = .ok (.iconst 0, 1) := by decide +kernel
theorem dL_holdsAll_213 : decode cL_holdsAll 213 = .ok (.istore 11, 2) := by decide +kernel
theorem dL_holdsAll_215 : decode cL_holdsAll 215 = .ok (.iload 11, 2) := by decide +kernel
theorem dL_holdsAll_217 : decode cL_holdsAll 217 = .ok (.aload_n 1, 1) := by decide +kernel
theorem dL_holdsAll_218 : decode cL_holdsAll 218 = .ok (.iconst 0, 1) := by decide +kernel
theorem dL_holdsAll_219 : decode cL_holdsAll 219 = .ok (.iaload, 1) := by decide +kernel
theorem dL_holdsAll_220 : decode cL_holdsAll 220 = .ok (.if_icmp .ge 56, 3) := by decide +kernel
theorem dL_holdsAll_223 : decode cL_holdsAll 223 = .ok (.iload 7, 2) := by decide +kernel
theorem dL_holdsAll_225 : decode cL_holdsAll 225 = .ok (.ifCond .eq 51, 3) := by decide +kernel
theorem dL_holdsAll_228 : decode cL_holdsAll 228 = .ok (.aload_n 0, 1) := by decide +kernel
theorem dL_holdsAll_229 : decode cL_holdsAll 229 = .ok (.iload 11, 2) := by decide +kernel
theorem dL_holdsAll_231 : decode cL_holdsAll 231 = .ok (.iload 8, 2) := by decide +kernel
theorem dL_holdsAll_233 : decode cL_holdsAll 233 = .ok (.invokestatic 216, 3) := by decide +kernel
theorem dL_holdsAll_236 : decode cL_holdsAll 236 = .ok (.istore 12, 2) := by decide +kernel
theorem dL_holdsAll_238 : decode cL_holdsAll 238 = .ok (.aload_n 0, 1) := by decide +kernel
theorem dL_holdsAll_239 : decode cL_holdsAll 239 = .ok (.iload 8, 2) := by decide +kernel
theorem dL_holdsAll_241 : decode cL_holdsAll 241 = .ok (.invokestatic 186, 3) := by decide +kernel
theorem dL_holdsAll_244 : decode cL_holdsAll 244 = .ok (.iconst 2, 1) := by decide +kernel
theorem dL_holdsAll_245 : decode cL_holdsAll 245 = .ok (.if_icmp .ne 18, 3) := by decide +kernel
theorem dL_holdsAll_248 : decode cL_holdsAll 248 = .ok (.iload 12, 2) := by decide +kernel
theorem dL_holdsAll_250 : decode cL_holdsAll 250 = .ok (.iconst 1, 1) := by decide +kernel
theorem dL_holdsAll_251 : decode cL_holdsAll 251 = .ok (.if_icmp .lt 12, 3) := by decide +kernel
theorem dL_holdsAll_254 : decode cL_holdsAll 254 = .ok (.aload_n 0, 1) := by decide +kernel
theorem dL_holdsAll_255 : decode cL_holdsAll 255 = .ok (.iload 11, 2) := by decide +kernel
theorem dL_holdsAll_257 : decode cL_holdsAll 257 = .ok (.invokestatic 213, 3) := by decide +kernel
theorem dL_holdsAll_260 : decode cL_holdsAll 260 = .ok (.ifCond .ne 7, 3) := by decide +kernel
theorem dL_holdsAll_263 : decode cL_holdsAll 263 = .ok (.iconst 1, 1) := by decide +kernel
theorem dL_holdsAll_264 : decode cL_holdsAll 264 = .ok (.goto 4, 3) := by decide +kernel
theorem dL_holdsAll_267 : decode cL_holdsAll 267 = .ok (.iconst 0, 1) := by decide +kernel
theorem dL_holdsAll_268 : decode cL_holdsAll 268 = .ok (.istore 7, 2) := by decide +kernel
theorem dL_holdsAll_270 : decode cL_holdsAll 270 = .ok (.iinc 11 1, 3) := by decide +kernel
theorem dL_holdsAll_273 : decode cL_holdsAll 273 = .ok (.goto (-58), 3) := by decide +kernel
theorem dL_holdsAll_276 : decode cL_holdsAll 276 = .ok (.iinc 8 1, 3) := by decide +kernel
theorem dL_holdsAll_279 : decode cL_holdsAll 279 = .ok (.goto (-255), 3) := by decide +kernel
theorem dL_holdsAll_282 : decode cL_holdsAll 282 = .ok (.iconst 0, 1) := by decide +kernel
theorem dL_holdsAll_283 : decode cL_holdsAll 283 = .ok (.istore 8, 2) := by decide +kernel
theorem dL_holdsAll_285 : decode cL_holdsAll 285 = .ok (.iload 8, 2) := by decide +kernel
theorem dL_holdsAll_287 : decode cL_holdsAll 287 = .ok (.bipush 8, 2) := by decide +kernel
theorem dL_holdsAll_289 : decode cL_holdsAll 289 = .ok (.if_icmp .ge 86, 3) := by decide +kernel
theorem dL_holdsAll_292 : decode cL_holdsAll 292 = .ok (.iload 7, 2) := by decide +kernel
theorem dL_holdsAll_294 : decode cL_holdsAll 294 = .ok (.ifCond .eq 81, 3) := by decide +kernel
theorem dL_holdsAll_297 : decode cL_holdsAll 297 = .ok (.aload_n 0, 1) := by decide +kernel
theorem dL_holdsAll_298 : decode cL_holdsAll 298 = .ok (.iload 8, 2) := by decide +kernel
theorem dL_holdsAll_300 : decode cL_holdsAll 300 = .ok (.iload_n 3, 1) := by decide +kernel
theorem dL_holdsAll_301 : decode cL_holdsAll 301 = .ok (.invokestatic 200, 3) := by decide +kernel
theorem dL_holdsAll_304 : decode cL_holdsAll 304 = .ok (.istore 9, 2) := by decide +kernel
theorem dL_holdsAll_306 : decode cL_holdsAll 306 = .ok (.aload_n 0, 1) := by decide +kernel
theorem dL_holdsAll_307 : decode cL_holdsAll 307 = .ok (.iload 8, 2) := by decide +kernel
theorem dL_holdsAll_309 : decode cL_holdsAll 309 = .ok (.iload_n 3, 1) := by decide +kernel
theorem dL_holdsAll_310 : decode cL_holdsAll 310 = .ok (.invokestatic 205, 3) := by decide +kernel
theorem dL_holdsAll_313 : decode cL_holdsAll 313 = .ok (.istore 10, 2) := by decide +kernel
theorem dL_holdsAll_315 : decode cL_holdsAll 315 = .ok (.aload_n 0, 1) := by decide +kernel
theorem dL_holdsAll_316 : decode cL_holdsAll 316 = .ok (.iload 8, 2) := by decide +kernel
theorem dL_holdsAll_318 : decode cL_holdsAll 318 = .ok (.iload_n 3, 1) := by decide +kernel
theorem dL_holdsAll_319 : decode cL_holdsAll 319 = .ok (.invokestatic 208, 3) := by decide +kernel
theorem dL_holdsAll_322 : decode cL_holdsAll 322 = .ok (.istore 11, 2) := by decide +kernel
theorem dL_holdsAll_324 : decode cL_holdsAll 324 = .ok (.iload 4, 2) := by decide +kernel
theorem dL_holdsAll_326 : decode cL_holdsAll 326 = .ok (.iload 9, 2) := by decide +kernel
theorem dL_holdsAll_328 : decode cL_holdsAll 328 = .ok (.iadd, 1) := by decide +kernel
theorem dL_holdsAll_329 : decode cL_holdsAll 329 = .ok (.istore 4, 2) := by decide +kernel
theorem dL_holdsAll_331 : decode cL_holdsAll 331 = .ok (.iload 11, 2) := by decide +kernel
theorem dL_holdsAll_333 : decode cL_holdsAll 333 = .ok (.iload 9, 2) := by decide +kernel
theorem dL_holdsAll_335 : decode cL_holdsAll 335 = .ok (.if_icmp .eq 15, 3) := by decide +kernel
theorem dL_holdsAll_338 : decode cL_holdsAll 338 = .ok (.iload 11, 2) := by decide +kernel
theorem dL_holdsAll_340 : decode cL_holdsAll 340 = .ok (.ldc 21, 2) := by decide +kernel
theorem dL_holdsAll_342 : decode cL_holdsAll 342 = .ok (.if_icmp .ne 24, 3) := by decide +kernel
theorem dL_holdsAll_345 : decode cL_holdsAll 345 = .ok (.iload 6, 2) := by decide +kernel
theorem dL_holdsAll_347 : decode cL_holdsAll 347 = .ok (.ifCond .ne 19, 3) := by decide +kernel
theorem dL_holdsAll_350 : decode cL_holdsAll 350 = .ok (.iload 10, 2) := by decide +kernel
theorem dL_holdsAll_352 : decode cL_holdsAll 352 = .ok (.iload 9, 2) := by decide +kernel
theorem dL_holdsAll_354 : decode cL_holdsAll 354 = .ok (.if_icmp .eq 8, 3) := by decide +kernel
theorem dL_holdsAll_357 : decode cL_holdsAll 357 = .ok (.iload 6, 2) := by decide +kernel
theorem dL_holdsAll_359 : decode cL_holdsAll 359 = .ok (.ifCond .ne 7, 3) := by decide +kernel
theorem dL_holdsAll_362 : decode cL_holdsAll 362 = .ok (.iconst 1, 1) := by decide +kernel
theorem dL_holdsAll_363 : decode cL_holdsAll 363 = .ok (.goto 4, 3) := by decide +kernel
theorem dL_holdsAll_366 : decode cL_holdsAll 366 = .ok (.iconst 0, 1) := by decide +kernel
theorem dL_holdsAll_367 : decode cL_holdsAll 367 = .ok (.istore 7, 2) := by decide +kernel
theorem dL_holdsAll_369 : decode cL_holdsAll 369 = .ok (.iinc 8 1, 3) := by decide +kernel
theorem dL_holdsAll_372 : decode cL_holdsAll 372 = .ok (.goto (-87), 3) := by decide +kernel
theorem dL_holdsAll_375 : decode cL_holdsAll 375 = .ok (.iload 7, 2) := by decide +kernel
theorem dL_holdsAll_377 : decode cL_holdsAll 377 = .ok (.ifCond .eq 30, 3) := by decide +kernel
theorem dL_holdsAll_380 : decode cL_holdsAll 380 = .ok (.iload 4, 2) := by decide +kernel
theorem dL_holdsAll_382 : decode cL_holdsAll 382 = .ok (.ifCond .ne 25, 3) := by decide +kernel
theorem dL_holdsAll_385 : decode cL_holdsAll 385 = .ok (.iload 5, 2) := by decide +kernel
theorem dL_holdsAll_387 : decode cL_holdsAll 387 = .ok (.aload_n 0, 1) := by decide +kernel
theorem dL_holdsAll_388 : decode cL_holdsAll 388 = .ok (.invokevirtual 234, 3) := by decide +kernel
theorem dL_holdsAll_391 : decode cL_holdsAll 391 = .ok (.if_icmp .ne 16, 3) := by decide +kernel
theorem dL_holdsAll_394 : decode cL_holdsAll 394 = .ok (.aload_n 0, 1) := by decide +kernel
theorem dL_holdsAll_395 : decode cL_holdsAll 395 = .ok (.invokevirtual 245, 3) := by decide +kernel
theorem dL_holdsAll_398 : decode cL_holdsAll 398 = .ok (.iload 5, 2) := by decide +kernel
theorem dL_holdsAll_400 : decode cL_holdsAll 400 = .ok (.if_icmp .gt 7, 3) := by decide +kernel
theorem dL_holdsAll_403 : decode cL_holdsAll 403 = .ok (.iconst 1, 1) := by decide +kernel
theorem dL_holdsAll_404 : decode cL_holdsAll 404 = .ok (.goto 4, 3) := by decide +kernel
theorem dL_holdsAll_407 : decode cL_holdsAll 407 = .ok (.iconst 0, 1) := by decide +kernel
theorem dL_holdsAll_408 : decode cL_holdsAll 408 = .ok (.ireturn, 1) := by decide +kernel
